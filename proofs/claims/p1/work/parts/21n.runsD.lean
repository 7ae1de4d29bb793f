/-! ===== no call at all, and calls that none is ===== -/
theorem xlen_0 : xgood (xsc 0) xS0 = true := by decide +kernel
theorem xlen_1 : xgood (xsc 1) xS0 = true := by decide +kernel
theorem xlen_2 : xgood (xsc 2) xS0 = true := by decide +kernel
theorem xlen_3 : xgood (xsc 3) xS0 = true := by decide +kernel
theorem xlen_4 : xgood (xsc 4) xS0 = true := by decide +kernel
theorem xlen_5 : xgood (xsc 5) xS0 = true := by decide +kernel
theorem xop_rest : ∀ i, i < 17 → xchk5 xA5 (fun sc => xgood sc (xS (47 + i))) = true := fun i hi => List.all_eq_true.mp (show (List.range 17).all (fun i => xchk5 xA5 (fun sc => xgood sc (xS (47 + i)))) = true by decide +kernel) i (List.mem_range.mpr hi)
def xf5 (op : Nat) (q1 q2 : Int × Int) (l : XB3) : Bool := xchk l (fun q3 l => xchk l (fun q4 l => xchk l (fun q5 _ => xgood [.inl xtop, .inl q1, .inl q2, .inl q3, .inl q4, .inl q5] (xS op))))
theorem x_pieces {F : Nat → Bool} {a b : Nat} (h : (List.range b).all (fun i => F (a + i)) = true) {j : Nat} (h1 : a ≤ j) (h2 : j < a + b) : F j = true := by
  have h3 := List.all_eq_true.mp h (j - a) (List.mem_range.mpr (by omega))
  rw [show a + (j - a) = j by omega] at h3
  exact h3
