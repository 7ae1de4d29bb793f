/-! ===== op 36: the model, -6 and -3 ===== -/
section XPL
variable {l : Launch} {D : va_G} {tA : Nat → ClassId} {ex : List Nat}
set_option maxRecDepth 100000 in
set_option maxHeartbeats 4000000 in
theorem xpm_6 {b s : Nat} (h1 : 1 ≤ b) (hb : b < 64) (hs : s < 64) (hp : 3 < xpop b) : XMet l D vwCl (tysX tA) tA ex (xSTX ++ [xscA]) xSV xNW xNF xTs xm235 [.inr (.inr (1, 57)), .inl ((b : Int), (b : Int)), .inl ((s : Int), (s : Int))] xw0 (some (.inl (-6, -6))) (xw0) := by
  refine xmet_ofK x_good (x_tysX tA) (x_tysY tA) (x_tysC tA) x_ok (fun j N as w ro w' => xcf_met j N as w ro w') (j := 235) (w2 := xw0) (k2 := 0) (n2 := 0) rfl (Nat.le_of_ble_eq_true rfl) ⟨Nat.le_refl _, Nat.le_refl _⟩ (Or.inr rfl) (fun P hP hF => ?_)
  show P (.inl (0, [(0, .inr (.inr (1, 57))), (1, .inl ((b : Int), (b : Int))), (2, .inl ((s : Int), (s : Int)))], [], xw0, 0, 0))
  refine hP.go (r := .inl (1, [(0, .inr (.inr (1, 57))), (1, .inl ((b : Int), (b : Int))), (2, .inl ((s : Int), (s : Int)))], [.inl ((b : Int), (b : Int))], xw0, 0, 0)) xf235_0 rfl ?_
  refine hP.go (r := .inl (2, [(0, .inr (.inr (1, 57))), (1, .inl ((b : Int), (b : Int))), (2, .inl ((s : Int), (s : Int)))], [.inl ((1 : Int), (1 : Int)), .inl ((b : Int), (b : Int))], xw0, 0, 0)) xf235_1 rfl ?_
  refine hP.go (r := .inl (4, [(0, .inr (.inr (1, 57))), (1, .inl ((b : Int), (b : Int))), (2, .inl ((s : Int), (s : Int)))], [.inl ((63 : Int), (63 : Int)), .inl ((1 : Int), (1 : Int)), .inl ((b : Int), (b : Int))], xw0, 0, 0)) xf235_2 rfl ?_
  refine hP.go (r := .inl (7, [(0, .inr (.inr (1, 57))), (1, .inl ((b : Int), (b : Int))), (2, .inl ((s : Int), (s : Int)))], [.inl ((1 : Int), (1 : Int))], xw0, 0, 0)) xf235_4 (sx_calls (N := xm160) (ro := some (.inl ((1 : Int), (1 : Int)))) (w' := xw0) (k := 0) (n := 0) (by decide) rfl (Nat.le_of_ble_eq_true rfl) (Nat.le_of_ble_eq_true rfl) (Nat.le_of_ble_eq_true rfl) (Nat.le_of_ble_eq_true rfl) (Nat.le_of_ble_eq_true rfl) (Nat.le_of_ble_eq_true rfl) (xin_1 h1 hb)) ?_
  refine hP.go (r := .inl (10, [(0, .inr (.inr (1, 57))), (1, .inl ((b : Int), (b : Int))), (2, .inl ((s : Int), (s : Int)))], [], xw0, 0, 0)) xf235_7 (sx_if (o := false) rfl) ?_
  refine hP.go (r := .inl (11, [(0, .inr (.inr (1, 57))), (1, .inl ((b : Int), (b : Int))), (2, .inl ((s : Int), (s : Int)))], [.inl ((s : Int), (s : Int))], xw0, 0, 0)) xf235_10 rfl ?_
  refine hP.go (r := .inl (12, [(0, .inr (.inr (1, 57))), (1, .inl ((b : Int), (b : Int))), (2, .inl ((s : Int), (s : Int)))], [.inl ((0 : Int), (0 : Int)), .inl ((s : Int), (s : Int))], xw0, 0, 0)) xf235_11 rfl ?_
  refine hP.go (r := .inl (14, [(0, .inr (.inr (1, 57))), (1, .inl ((b : Int), (b : Int))), (2, .inl ((s : Int), (s : Int)))], [.inl ((63 : Int), (63 : Int)), .inl ((0 : Int), (0 : Int)), .inl ((s : Int), (s : Int))], xw0, 0, 0)) xf235_12 rfl ?_
  refine hP.go (r := .inl (17, [(0, .inr (.inr (1, 57))), (1, .inl ((b : Int), (b : Int))), (2, .inl ((s : Int), (s : Int)))], [.inl ((1 : Int), (1 : Int))], xw0, 0, 0)) xf235_14 (sx_calls (N := xm160) (ro := some (.inl ((1 : Int), (1 : Int)))) (w' := xw0) (k := 0) (n := 0) (by decide) rfl (Nat.le_of_ble_eq_true rfl) (Nat.le_of_ble_eq_true rfl) (Nat.le_of_ble_eq_true rfl) (Nat.le_of_ble_eq_true rfl) (Nat.le_of_ble_eq_true rfl) (Nat.le_of_ble_eq_true rfl) (xin_0 hs)) ?_
  refine hP.go (r := .inl (22, [(0, .inr (.inr (1, 57))), (1, .inl ((b : Int), (b : Int))), (2, .inl ((s : Int), (s : Int)))], [], xw0, 0, 0)) xf235_17 (sx_if (o := true) rfl) ?_
  refine hP.go (r := .inl (23, [(0, .inr (.inr (1, 57))), (1, .inl ((b : Int), (b : Int))), (2, .inl ((s : Int), (s : Int)))], [.inl ((b : Int), (b : Int))], xw0, 0, 0)) xf235_22 rfl ?_
  refine hP.go (r := .inl (24, [(0, .inr (.inr (1, 57))), (1, .inl ((b : Int), (b : Int))), (2, .inl ((s : Int), (s : Int)))], [.inr (.inl (some (b : Int)))], xw0, 0, 0)) xf235_23 sx_i2l ?_
  refine hP.go (r := .inl (27, [(0, .inr (.inr (1, 57))), (1, .inl ((b : Int), (b : Int))), (2, .inl ((s : Int), (s : Int)))], [.inl ((xpop b : Int), (xpop b : Int))], xw0, 0, 0)) xf235_24 (sx_calls (N := xm191) (ro := some (.inl ((xpop b : Int), (xpop b : Int)))) (w' := xw0) (k := 0) (n := 0) (by decide) rfl (Nat.le_of_ble_eq_true rfl) (Nat.le_of_ble_eq_true rfl) (Nat.le_of_ble_eq_true rfl) (Nat.le_of_ble_eq_true rfl) (Nat.le_of_ble_eq_true rfl) (Nat.le_of_ble_eq_true rfl) (xmn hb)) ?_
  refine hP.go (r := .inl (28, [(0, .inr (.inr (1, 57))), (1, .inl ((b : Int), (b : Int))), (2, .inl ((s : Int), (s : Int)))], [.inl ((3 : Int), (3 : Int)), .inl ((xpop b : Int), (xpop b : Int))], xw0, 0, 0)) xf235_27 rfl ?_
  refine hP.go (r := .inl (31, [(0, .inr (.inr (1, 57))), (1, .inl ((b : Int), (b : Int))), (2, .inl ((s : Int), (s : Int)))], [], xw0, 0, 0)) xf235_28 (sx_icmp (o := false) (xcle_of.trans (by simp <;> omega))) ?_
  refine hP.go (r := .inl (33, [(0, .inr (.inr (1, 57))), (1, .inl ((b : Int), (b : Int))), (2, .inl ((s : Int), (s : Int)))], [.inl ((-6 : Int), (-6 : Int))], xw0, 0, 0)) xf235_31 rfl ?_
  exact hP.go (r := .inr (some (.inl (-6, -6)), xw0, 0, 0)) xf235_33 rfl hF
def xpmS (s : Nat) : XS := (34, [(0, .inr (.inr (1, 57))), (1, .inl (1, 63)), (2, .inl ((s : Int), (s : Int)))], [], xP_w1, 0, 0)
def xpmk (s : Nat) : Bool := match xrun (xSt xscA xm235) 20 (xpmS s) with
  | some (.inr (some (.inl z), _, 0, 0)) => decide (z = (-3, -3))
  | _ => false
theorem xpm0 : (List.range 63).all (fun s => xpmk (s + 1)) = true := by decide +kernel
theorem xpm_run {s : Nat} (h1 : 1 ≤ s) (hs : s < 64) : ∃ w2, xrun (xSt xscA xm235) 20 (xpmS s) = some (.inr (some (.inl (-3, -3)), w2, 0, 0)) := by
  have h := List.all_eq_true.mp xpm0 (s - 1) (List.mem_range.mpr (by omega))
  rw [show s - 1 + 1 = s by omega] at h
  unfold xpmk at h
  split at h
  · rename_i z w hz
    have a1 := of_decide_eq_true h
    subst a1
    exact ⟨w, hz⟩
  · cases h
theorem xsle_lv {pc : Nat} {lv lv' : XL} {w : XW} (h : xkle lv lv' = true) (hw : xwle w w = true) : xsle (pc, lv, [], w, 0, 0) (pc, lv', [], w, 0, 0) = true := by
  unfold xsle
  dsimp only
  rw [h, hw]
  simp [xlle]
set_option maxRecDepth 100000 in
set_option maxHeartbeats 4000000 in
theorem xpm_3 {b s : Nat} (h1 : 1 ≤ b) (hb : b < 64) (hs1 : 1 ≤ s) (hs : s < 64) (hp : xpop b ≤ 3) : ∃ w2, XMet l D vwCl (tysX tA) tA ex (xSTX ++ [xscA]) xSV xNW xNF xTs xm235 [.inr (.inr (1, 57)), .inl ((b : Int), (b : Int)), .inl ((s : Int), (s : Int))] xP_w1 (some (.inl (-3, -3))) w2 := by
  obtain ⟨w2, hw2⟩ := xpm_run hs1 hs
  refine ⟨w2, ?_⟩
  refine xmet_ofK x_good (x_tysX tA) (x_tysY tA) (x_tysC tA) x_ok (fun j N as w ro w' => xcf_met j N as w ro w') (j := 235) (w2 := w2) (k2 := 0) (n2 := 0) rfl (Nat.le_of_ble_eq_true rfl) ⟨Nat.le_refl _, Nat.le_refl _⟩ (Or.inr rfl) (fun P hP hF => ?_)
  show P (.inl (0, [(0, .inr (.inr (1, 57))), (1, .inl ((b : Int), (b : Int))), (2, .inl ((s : Int), (s : Int)))], [], xP_w1, 0, 0))
  refine hP.go (r := .inl (1, [(0, .inr (.inr (1, 57))), (1, .inl ((b : Int), (b : Int))), (2, .inl ((s : Int), (s : Int)))], [.inl ((b : Int), (b : Int))], xP_w1, 0, 0)) xf235_0 rfl ?_
  refine hP.go (r := .inl (2, [(0, .inr (.inr (1, 57))), (1, .inl ((b : Int), (b : Int))), (2, .inl ((s : Int), (s : Int)))], [.inl ((1 : Int), (1 : Int)), .inl ((b : Int), (b : Int))], xP_w1, 0, 0)) xf235_1 rfl ?_
  refine hP.go (r := .inl (4, [(0, .inr (.inr (1, 57))), (1, .inl ((b : Int), (b : Int))), (2, .inl ((s : Int), (s : Int)))], [.inl ((63 : Int), (63 : Int)), .inl ((1 : Int), (1 : Int)), .inl ((b : Int), (b : Int))], xP_w1, 0, 0)) xf235_2 rfl ?_
  refine hP.go (r := .inl (7, [(0, .inr (.inr (1, 57))), (1, .inl ((b : Int), (b : Int))), (2, .inl ((s : Int), (s : Int)))], [.inl ((1 : Int), (1 : Int))], xP_w1, 0, 0)) xf235_4 (sx_calls (N := xm160) (ro := some (.inl ((1 : Int), (1 : Int)))) (w' := xP_w1) (k := 0) (n := 0) (by decide) rfl (Nat.le_of_ble_eq_true rfl) (Nat.le_of_ble_eq_true rfl) (Nat.le_of_ble_eq_true rfl) (Nat.le_of_ble_eq_true rfl) (Nat.le_of_ble_eq_true rfl) (Nat.le_of_ble_eq_true rfl) (xin_1 h1 hb)) ?_
  refine hP.go (r := .inl (10, [(0, .inr (.inr (1, 57))), (1, .inl ((b : Int), (b : Int))), (2, .inl ((s : Int), (s : Int)))], [], xP_w1, 0, 0)) xf235_7 (sx_if (o := false) rfl) ?_
  refine hP.go (r := .inl (11, [(0, .inr (.inr (1, 57))), (1, .inl ((b : Int), (b : Int))), (2, .inl ((s : Int), (s : Int)))], [.inl ((s : Int), (s : Int))], xP_w1, 0, 0)) xf235_10 rfl ?_
  refine hP.go (r := .inl (12, [(0, .inr (.inr (1, 57))), (1, .inl ((b : Int), (b : Int))), (2, .inl ((s : Int), (s : Int)))], [.inl ((0 : Int), (0 : Int)), .inl ((s : Int), (s : Int))], xP_w1, 0, 0)) xf235_11 rfl ?_
  refine hP.go (r := .inl (14, [(0, .inr (.inr (1, 57))), (1, .inl ((b : Int), (b : Int))), (2, .inl ((s : Int), (s : Int)))], [.inl ((63 : Int), (63 : Int)), .inl ((0 : Int), (0 : Int)), .inl ((s : Int), (s : Int))], xP_w1, 0, 0)) xf235_12 rfl ?_
  refine hP.go (r := .inl (17, [(0, .inr (.inr (1, 57))), (1, .inl ((b : Int), (b : Int))), (2, .inl ((s : Int), (s : Int)))], [.inl ((1 : Int), (1 : Int))], xP_w1, 0, 0)) xf235_14 (sx_calls (N := xm160) (ro := some (.inl ((1 : Int), (1 : Int)))) (w' := xP_w1) (k := 0) (n := 0) (by decide) rfl (Nat.le_of_ble_eq_true rfl) (Nat.le_of_ble_eq_true rfl) (Nat.le_of_ble_eq_true rfl) (Nat.le_of_ble_eq_true rfl) (Nat.le_of_ble_eq_true rfl) (Nat.le_of_ble_eq_true rfl) (xin_0 hs)) ?_
  refine hP.go (r := .inl (22, [(0, .inr (.inr (1, 57))), (1, .inl ((b : Int), (b : Int))), (2, .inl ((s : Int), (s : Int)))], [], xP_w1, 0, 0)) xf235_17 (sx_if (o := true) rfl) ?_
  refine hP.go (r := .inl (23, [(0, .inr (.inr (1, 57))), (1, .inl ((b : Int), (b : Int))), (2, .inl ((s : Int), (s : Int)))], [.inl ((b : Int), (b : Int))], xP_w1, 0, 0)) xf235_22 rfl ?_
  refine hP.go (r := .inl (24, [(0, .inr (.inr (1, 57))), (1, .inl ((b : Int), (b : Int))), (2, .inl ((s : Int), (s : Int)))], [.inr (.inl (some (b : Int)))], xP_w1, 0, 0)) xf235_23 sx_i2l ?_
  refine hP.go (r := .inl (27, [(0, .inr (.inr (1, 57))), (1, .inl ((b : Int), (b : Int))), (2, .inl ((s : Int), (s : Int)))], [.inl ((xpop b : Int), (xpop b : Int))], xP_w1, 0, 0)) xf235_24 (sx_calls (N := xm191) (ro := some (.inl ((xpop b : Int), (xpop b : Int)))) (w' := xP_w1) (k := 0) (n := 0) (by decide) rfl (Nat.le_of_ble_eq_true rfl) (Nat.le_of_ble_eq_true rfl) (Nat.le_of_ble_eq_true rfl) (Nat.le_of_ble_eq_true rfl) (Nat.le_of_ble_eq_true rfl) (Nat.le_of_ble_eq_true rfl) (xmn hb)) ?_
  refine hP.go (r := .inl (28, [(0, .inr (.inr (1, 57))), (1, .inl ((b : Int), (b : Int))), (2, .inl ((s : Int), (s : Int)))], [.inl ((3 : Int), (3 : Int)), .inl ((xpop b : Int), (xpop b : Int))], xP_w1, 0, 0)) xf235_27 rfl ?_
  refine hP.go (r := .inl (34, [(0, .inr (.inr (1, 57))), (1, .inl ((b : Int), (b : Int))), (2, .inl ((s : Int), (s : Int)))], [], xP_w1, 0, 0)) xf235_28 (sx_icmp (o := true) (xcle_of.trans (by simp <;> omega))) ?_
  refine hP.2.1 _ (xpmS s) (xsle_lv (by simp [xkle, xvle]; omega) xP_le) ?_
  exact hP.run hw2 hF
end XPL
