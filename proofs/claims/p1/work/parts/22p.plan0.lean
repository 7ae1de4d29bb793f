/-! ===== op 36: no rows at all ===== -/
def xP_w0 : XW := (xw0.set 18 (.inr (2, [xi 1, xi 0, xi 0, xi 0, xi 0, xi 0, xi 0, xi 1, xi 0, xi 0, xi 0, xi 0, xi 0, xi 0, xi 1, xi 0, xi 0, xi 0, xi 0, xi 0, xi 0])))
def xpok (b : Nat) : Bool := decide (xpop b ≤ 3)
def xpc0k (b : Nat) : Bool := !xpok b || @decide _ (xd11 (xcf 20 xscA 116 [.inr (.inr (1, 0)), .inl ((b : Int), (b : Int)), .inl (0, 0)] xw0) (some (some (.inl (0, 0)), xP_w0)))
theorem xpc0_1 : (List.range 7).all (fun i => xpc0k (1 + i)) = true := by decide +kernel
theorem xpc0_8 : (List.range 8).all (fun i => xpc0k (8 + i)) = true := by decide +kernel
theorem xpc0_16 : (List.range 8).all (fun i => xpc0k (16 + i)) = true := by decide +kernel
theorem xpc0_24 : (List.range 8).all (fun i => xpc0k (24 + i)) = true := by decide +kernel
theorem xpc0_32 : (List.range 8).all (fun i => xpc0k (32 + i)) = true := by decide +kernel
theorem xpc0_40 : (List.range 8).all (fun i => xpc0k (40 + i)) = true := by decide +kernel
theorem xpc0_48 : (List.range 16).all (fun i => xpc0k (48 + i)) = true := by decide +kernel
theorem xpc0 {b : Nat} (h1 : 1 ≤ b) (hb : b < 64) (hp : xpop b ≤ 3) : xcf 20 xscA 116 [.inr (.inr (1, 0)), .inl ((b : Int), (b : Int)), .inl (0, 0)] xw0 = some (some (.inl (0, 0)), xP_w0) := by
  have h : xpc0k b = true := by
    rcases (show (1 ≤ b ∧ b < 8) ∨ (8 ≤ b ∧ b < 16) ∨ (16 ≤ b ∧ b < 24) ∨ (24 ≤ b ∧ b < 32) ∨ (32 ≤ b ∧ b < 40) ∨ (40 ≤ b ∧ b < 48) ∨ (48 ≤ b ∧ b < 64) by omega) with h | h | h | h | h | h | h
    · exact x_pieces (F := xpc0k) (a := 1) (b := 7) xpc0_1 h.1 (by omega)
    · exact x_pieces (F := xpc0k) (a := 8) (b := 8) xpc0_8 h.1 (by omega)
    · exact x_pieces (F := xpc0k) (a := 16) (b := 8) xpc0_16 h.1 (by omega)
    · exact x_pieces (F := xpc0k) (a := 24) (b := 8) xpc0_24 h.1 (by omega)
    · exact x_pieces (F := xpc0k) (a := 32) (b := 8) xpc0_32 h.1 (by omega)
    · exact x_pieces (F := xpc0k) (a := 40) (b := 8) xpc0_40 h.1 (by omega)
    · exact x_pieces (F := xpc0k) (a := 48) (b := 16) xpc0_48 h.1 (by omega)
  unfold xpc0k at h
  rw [show xpok b = true from decide_eq_true hp, Bool.not_true, Bool.false_or] at h
  exact @of_decide_eq_true _ (xd11 _ _) h
theorem xP0_57 : xP_w0[57]? = some xc57 := @of_decide_eq_true _ (xd10 _ _) (show @decide _ (xd10 (xP_w0[57]?) (some xc57)) = true by decide +kernel)
theorem xP0_le : xwle xP_w0 xP_w0 = true := by decide +kernel
