/-! ===== op 24: say; setTimes by its contract ===== -/
def xov1 : XF := fun j as w => if j = 185 then (match as with
  | [.inr (.inr (1, 57)), .inl q] => if 0 ≤ q.1 ∧ q.1 < 64 ∧ q.1 = q.2 then (if (@decide _ (xd10 (w[57]?) (some xc57)) && (@decide _ (xd10 (w[64]?) (some xc64)) && (@decide _ (xd10 (w[66]?) (some xc66)) && @decide _ (xd10 (w[69]?) (some (.inr (0, xtl 64 (fun _ => 0)))))))) = true then some (none, w.set 69 (.inr (0, xtl 64 (xDm q.1.toNat)))) else none) else none
  | _ => none) else none
abbrev xcfo : XF := xcall xMT xFT xFD xTY xTC (xSTX ++ [xscA]) xov1 20 8
theorem xov1_met {l : Launch} {D : va_G} {tA : Nat → ClassId} {ex : List Nat} (j : Nat) (N : XM) (as : List XV) (w : XW) (ro : Option XV) (w' : XW) : xMT j = some N → xov1 j as w = some (ro, w') → XMet l D vwCl (tysX tA) tA ex (xSTX ++ [xscA]) xSV xNW xNF xTs N as w ro w' := by
  intro hN h
  unfold xov1 at h
  split at h
  · rename_i hj
    subst hj
    split at h
    · rename_i q
      split at h
      · rename_i hq
        obtain ⟨q1, q2, q3⟩ := hq
        split at h
        · rename_i hc
          rw [Bool.and_eq_true, Bool.and_eq_true, Bool.and_eq_true] at hc
          obtain ⟨c1, c2, c3, c4⟩ := hc
          cases h
          have e0 : N = xm185 := (Option.some.inj hN).symm
          subst e0
          obtain ⟨a, ea⟩ : ∃ a : Nat, q.1 = (a : Int) := ⟨q.1.toNat, by omega⟩
          obtain ⟨x1, x2⟩ := q
          dsimp only at q1 q2 q3 ea ⊢
          subst q3
          subst ea
          rw [Int.toNat_natCast]
          exact xst_met (@of_decide_eq_true _ (xd10 _ _) c1) (@of_decide_eq_true _ (xd10 _ _) c2) (@of_decide_eq_true _ (xd10 _ _) c3) (@of_decide_eq_true _ (xd10 _ _) c4) (by omega)
        · cases h
      · cases h
    · cases h
  · cases h
theorem xcfo_met {l : Launch} {D : va_G} {tA : Nat → ClassId} {ex : List Nat} (j : Nat) (N : XM) (as : List XV) (w : XW) (ro : Option XV) (w' : XW) : xMT j = some N → xcfo j as w = some (ro, w') → XMet l D vwCl (tysX tA) tA ex (xSTX ++ [xscA]) xSV xNW xNF xTs N as w ro w' := xcall_met x_good (x_tysX tA) (x_tysY tA) (x_tysC tA) x_ok (fun j N as w ro w' => xov1_met j N as w ro w') 8 j N as w ro w'
def xpair3 (j1 j2 : Nat) (q1 q2 q3 : Int × Int) : Bool := match xcf 20 xscA j1 [.inr (.inr (1, 0)), .inl q1, .inl q2, .inl q3] xw0 with
  | some (some (.inl z), w1) => decide (z.1 = z.2) && (@decide _ (xd10 (w1[57]?) (some xc57)) && (match xcfo j2 [.inr (.inr (1, 57)), .inl q1, .inl q2, .inl q3] w1 with
    | some (some (.inl z'), _) => decide (z' = z)
    | _ => false))
  | _ => false
theorem xpair3_ok {j1 j2 : Nat} {q1 q2 q3 : Int × Int} (h : xpair3 j1 j2 q1 q2 q3 = true) : ∃ (z : Int) (w1 w2 : XW), xcf 20 xscA j1 [.inr (.inr (1, 0)), .inl q1, .inl q2, .inl q3] xw0 = some (some (.inl (z, z)), w1) ∧ w1[57]? = some xc57 ∧ xcfo j2 [.inr (.inr (1, 57)), .inl q1, .inl q2, .inl q3] w1 = some (some (.inl (z, z)), w2) := by
  unfold xpair3 at h
  split at h
  · rename_i z w1 h1
    rw [Bool.and_eq_true, Bool.and_eq_true] at h
    obtain ⟨a1, a2, a3⟩ := h
    have a1 := of_decide_eq_true a1
    have a2 := @of_decide_eq_true _ (xd10 _ _) a2
    split at a3
    · rename_i z' w2 h2
      have a3 := of_decide_eq_true a3
      subst a3
      obtain ⟨z1, z2⟩ := z'
      dsimp only at a1
      subst a1
      exact ⟨z1, w1, w2, h1, a2, h2⟩
    · cases a3
  · cases h
def xG24 : XB4 := [((-2147483648, -1), xA3), ((0, 0), xA3), ((1, 1), xA3), ((2, 2), xcut 0 xA2 xA2), ((3, 3), xiv 0 4 xA2 xA2), ((4, 4), xiv 0 63 xA2 xA2), ((5, 5), xA3), ((6, 2147483647), xA3)]
def xf24 (q1 : Int × Int) (l : XB4) : Bool := xchk l (fun q2 l => xchk l (fun q3 _ => xpair3 82 213 q1 q2 q3))
theorem x24_0 : xf24 (0 + ((0 : Nat) : Int), 0 + ((0 : Nat) : Int)) xG24 = true := by decide +kernel
theorem x24_1 : xf24 (0 + ((1 : Nat) : Int), 0 + ((1 : Nat) : Int)) xG24 = true := by decide +kernel
theorem x24_2 : xf24 (0 + ((2 : Nat) : Int), 0 + ((2 : Nat) : Int)) xG24 = true := by decide +kernel
theorem x24_3 : xf24 (0 + ((3 : Nat) : Int), 0 + ((3 : Nat) : Int)) xG24 = true := by decide +kernel
theorem x24_4 : xf24 (0 + ((4 : Nat) : Int), 0 + ((4 : Nat) : Int)) xG24 = true := by decide +kernel
theorem x24_5 : xf24 (0 + ((5 : Nat) : Int), 0 + ((5 : Nat) : Int)) xG24 = true := by decide +kernel
theorem x24_all : xchk (xrg 0 6 xA4 xG24) xf24 = true := xchk_rg (by decide +kernel) (fun r hr => by
  match r, hr with
  | 0, _ => exact x24_0
  | 1, _ => exact x24_1
  | 2, _ => exact x24_2
  | 3, _ => exact x24_3
  | 4, _ => exact x24_4
  | 5, _ => exact x24_5
  | r + 6, hr => exact absurd hr (by omega)) (by decide +kernel)
section XLW
variable {p : Program} {l : Launch} {e : Env} {s : State} {m : MethodId} {below : List Frame} {meth : Method} {c : Code} {b L : Nat} {xs : Nat → Int32} {D : va_G} {tA : Nat → ClassId} {ex : List Nat}
theorem xlaw_24 (C0 : lw_At p s m meth c b L xs) (hEn : ∀ sc : List XV, sc.length = 6 → (∀ (i : Nat) (x : XV), sc[i]? = some x → xv_in [] [] x (.int (xs i))) → XEnv D vwCl (tysX tA) ex (xSTX ++ [sc]) xSV xNW xNF (fun q : Nat => s.heap.size ≤ q) s) : XLS p l e s m b below meth c D tA ex (.inl (xS 24)) := by
  obtain ⟨q1, l1, h, a1⟩ := xchk_in x24_all (xs 1)
  obtain ⟨q2, l2, h, a2⟩ := xchk_in (show xchk l1 (fun q2 l => xchk l (fun q3 _ => xpair3 82 213 q1 q2 q3)) = true from h) (xs 2)
  obtain ⟨q3, l3, h, a3⟩ := xchk_in (show xchk l2 (fun q3 _ => xpair3 82 213 q1 q2 q3) = true from h) (xs 3)
  obtain ⟨z, w1, w2, e1, e2, e3⟩ := xpair3_ok h
  exact xlw_24 C0 hEn a1 a2 a3 (xcf_met _ _ _ _ _ _ rfl e1) e2 (xcfo_met _ _ _ _ _ _ rfl e3)
end XLW
