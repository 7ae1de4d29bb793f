/-! ===== the law's bodies ===== -/
section YL
variable {p : Program} {l : Launch} {e : Env} {s : State} {m : MethodId} {below : List Frame} {meth : Method} {c : Code} {b L : Nat} {xs : Nat → Int32} {D : va_G} {tA : Nat → ClassId} {ex : List Nat} {sc : List XV}
theorem yop_0 (C0 : lw_At p s m meth c b L xs) (hE : XEnv D vwCl (tysX tA) ex (xSTX ++ [sc]) xSV xNW xNF (fun q : Nat => s.heap.size ≤ q) s) (hsc : ∀ j : Nat, j < L → sc[j]? = some (.inl (yv xs j, yv xs j))) (hl : sc.length = L) (hL : L ≤ 3072) {i : Nat} (hi : i + 5 < L) {ks : List Nat} {w : XW} {k n : Nat} (hW : zV ks w) (hk : k + 3 ≤ 600000) (hn : n + 19 ≤ 7302250) (hK : ∀ (tl : List Nat) (w' : XW) (k' n' : Nat), (∀ q ∈ tl, yfresh q = true) → zV (ks ++ tl) w' → k' ≤ k + 3 → n' ≤ n + 19 → XLS p l e s m b below meth c D tA ex (.inl (1683, yLV i, [], w', k', n'))) : XLS p l e s m b below meth c D tA ex (.inl (236, yLV i, [], w, k, n)) := by
  obtain ⟨S, hW⟩ := hW
  refine yl_at C0 hE (S' := (237, yLV i, [.inr (.inr (1, 0))], w, k, n)) (q := _) rfl rfl ?_
  refine yl_arg C0 hE hsc hl (j := 1) (by decide) (by omega) hL rfl rfl rfl rfl rfl ?_
  refine yl_arg C0 hE hsc hl (j := 2) (by decide) (by omega) hL rfl rfl rfl rfl rfl ?_
  obtain ⟨ro1, w1, t1, m1, hW1, ht1, x1, hx1, hk1⟩ := zx_8 (l := l) (D := D) (tA := tA) (ex := ex) (sc := sc) hW (yv_rg _) (yv_rg _)
  subst hx1
  refine yl_call C0 hE (N := xm8) rfl rfl m1 (Nat.le_of_ble_eq_true rfl) (Nat.le_of_ble_eq_true rfl) (Nat.le_of_ble_eq_true rfl) (Nat.le_of_ble_eq_true rfl) (by show k + 0 ≤ 600000; omega) (by show n + 0 ≤ 7302250; omega) (zrec_0 hW) ?_
  show XLS p l e s m b below meth c D tA ex (.inl (250, yLV i, [x1], w1, k + 0, n + 0))
  refine yl_at C0 hE (S' := (251, yLV i, [], w1, k + 0, n + 0)) (q := _) rfl (sy_pop (ycat_0 hk1)) ?_
  refine yl_at C0 hE (S' := (252, yLV i, [.inr (.inr (1, 57))], w1, k + 0, n + 0)) (q := _) rfl rfl ?_
  refine yl_arg C0 hE hsc hl (j := 1) (by decide) (by omega) hL rfl rfl rfl rfl rfl ?_
  refine yl_arg C0 hE hsc hl (j := 2) (by decide) (by omega) hL rfl rfl rfl rfl rfl ?_
  obtain ⟨ro2, w2, t2, m2, hW2, ht2, x2, hx2, hk2⟩ := zx_158 (l := l) (D := D) (tA := tA) (ex := ex) (sc := sc) hW1 (yv_rg _) (yv_rg _)
  subst hx2
  refine yl_call C0 hE (N := xm158) rfl rfl m2 (Nat.le_of_ble_eq_true rfl) (Nat.le_of_ble_eq_true rfl) (Nat.le_of_ble_eq_true rfl) (Nat.le_of_ble_eq_true rfl) (by show k + 0 + 0 ≤ 600000; omega) (by show n + 0 + 0 ≤ 7302250; omega) (zrec_57 hW1) ?_
  show XLS p l e s m b below meth c D tA ex (.inl (265, yLV i, [x2], w2, k + 0 + 0, n + 0 + 0))
  refine yl_at C0 hE (S' := (266, yLV i, [], w2, k + 0 + 0, n + 0 + 0)) (q := _) rfl (sy_pop (ycat_0 hk2)) ?_
  refine yl_at C0 hE (S' := (1683, yLV i, [], w2, k + 0 + 0, n + 0 + 0)) (q := _) rfl rfl ?_
  exact hK (t1 ++ t2) w2 _ _ (fun q hq => (List.mem_append.mp hq).elim (ht1 q) (ht2 q)) (by rw [← List.append_assoc]; exact ⟨_, hW2⟩) (by omega) (by omega)
theorem yop_1 (C0 : lw_At p s m meth c b L xs) (hE : XEnv D vwCl (tysX tA) ex (xSTX ++ [sc]) xSV xNW xNF (fun q : Nat => s.heap.size ≤ q) s) (hsc : ∀ j : Nat, j < L → sc[j]? = some (.inl (yv xs j, yv xs j))) (hl : sc.length = L) (hL : L ≤ 3072) {i : Nat} (hi : i + 5 < L) {ks : List Nat} {w : XW} {k n : Nat} (hW : zV ks w) (hk : k + 3 ≤ 600000) (hn : n + 19 ≤ 7302250) (hK : ∀ (tl : List Nat) (w' : XW) (k' n' : Nat), (∀ q ∈ tl, yfresh q = true) → zV (ks ++ tl) w' → k' ≤ k + 3 → n' ≤ n + 19 → XLS p l e s m b below meth c D tA ex (.inl (1683, yLV i, [], w', k', n'))) : XLS p l e s m b below meth c D tA ex (.inl (269, yLV i, [], w, k, n)) := by
  obtain ⟨S, hW⟩ := hW
  refine yl_at C0 hE (S' := (270, yLV i, [.inr (.inr (1, 0))], w, k, n)) (q := _) rfl rfl ?_
  refine yl_arg C0 hE hsc hl (j := 1) (by decide) (by omega) hL rfl rfl rfl rfl rfl ?_
  refine yl_arg C0 hE hsc hl (j := 2) (by decide) (by omega) hL rfl rfl rfl rfl rfl ?_
  refine yl_arg C0 hE hsc hl (j := 3) (by decide) (by omega) hL rfl rfl rfl rfl rfl ?_
  obtain ⟨ro1, w1, t1, m1, hW1, ht1, x1, hx1, hk1⟩ := zx_12 (l := l) (D := D) (tA := tA) (ex := ex) (sc := sc) hW (yv_rg _) (yv_rg _) (yv_rg _)
  subst hx1
  refine yl_call C0 hE (N := xm12) rfl rfl m1 (Nat.le_of_ble_eq_true rfl) (Nat.le_of_ble_eq_true rfl) (Nat.le_of_ble_eq_true rfl) (Nat.le_of_ble_eq_true rfl) (by show k + 0 ≤ 600000; omega) (by show n + 0 ≤ 7302250; omega) (zrec_0 hW) ?_
  show XLS p l e s m b below meth c D tA ex (.inl (288, yLV i, [x1], w1, k + 0, n + 0))
  refine yl_at C0 hE (S' := (289, yLV i, [], w1, k + 0, n + 0)) (q := _) rfl (sy_pop (ycat_0 hk1)) ?_
  refine yl_at C0 hE (S' := (290, yLV i, [.inr (.inr (1, 57))], w1, k + 0, n + 0)) (q := _) rfl rfl ?_
  refine yl_arg C0 hE hsc hl (j := 1) (by decide) (by omega) hL rfl rfl rfl rfl rfl ?_
  refine yl_arg C0 hE hsc hl (j := 2) (by decide) (by omega) hL rfl rfl rfl rfl rfl ?_
  refine yl_arg C0 hE hsc hl (j := 3) (by decide) (by omega) hL rfl rfl rfl rfl rfl ?_
  obtain ⟨ro2, w2, t2, m2, hW2, ht2, x2, hx2, hk2⟩ := zx_162 (l := l) (D := D) (tA := tA) (ex := ex) (sc := sc) hW1 (yv_rg _) (yv_rg _) (yv_rg _)
  subst hx2
  refine yl_call C0 hE (N := xm162) rfl rfl m2 (Nat.le_of_ble_eq_true rfl) (Nat.le_of_ble_eq_true rfl) (Nat.le_of_ble_eq_true rfl) (Nat.le_of_ble_eq_true rfl) (by show k + 0 + 0 ≤ 600000; omega) (by show n + 0 + 0 ≤ 7302250; omega) (zrec_57 hW1) ?_
  show XLS p l e s m b below meth c D tA ex (.inl (308, yLV i, [x2], w2, k + 0 + 0, n + 0 + 0))
  refine yl_at C0 hE (S' := (309, yLV i, [], w2, k + 0 + 0, n + 0 + 0)) (q := _) rfl (sy_pop (ycat_0 hk2)) ?_
  refine yl_at C0 hE (S' := (1683, yLV i, [], w2, k + 0 + 0, n + 0 + 0)) (q := _) rfl rfl ?_
  exact hK (t1 ++ t2) w2 _ _ (fun q hq => (List.mem_append.mp hq).elim (ht1 q) (ht2 q)) (by rw [← List.append_assoc]; exact ⟨_, hW2⟩) (by omega) (by omega)
theorem yop_2 (C0 : lw_At p s m meth c b L xs) (hE : XEnv D vwCl (tysX tA) ex (xSTX ++ [sc]) xSV xNW xNF (fun q : Nat => s.heap.size ≤ q) s) (hsc : ∀ j : Nat, j < L → sc[j]? = some (.inl (yv xs j, yv xs j))) (hl : sc.length = L) (hL : L ≤ 3072) {i : Nat} (hi : i + 5 < L) {ks : List Nat} {w : XW} {k n : Nat} (hW : zV ks w) (hk : k + 3 ≤ 600000) (hn : n + 19 ≤ 7302250) (hK : ∀ (tl : List Nat) (w' : XW) (k' n' : Nat), (∀ q ∈ tl, yfresh q = true) → zV (ks ++ tl) w' → k' ≤ k + 3 → n' ≤ n + 19 → XLS p l e s m b below meth c D tA ex (.inl (1683, yLV i, [], w', k', n'))) : XLS p l e s m b below meth c D tA ex (.inl (312, yLV i, [], w, k, n)) := by
  obtain ⟨S, hW⟩ := hW
  refine yl_at C0 hE (S' := (313, yLV i, [.inr (.inr (1, 0))], w, k, n)) (q := _) rfl rfl ?_
  refine yl_arg C0 hE hsc hl (j := 1) (by decide) (by omega) hL rfl rfl rfl rfl rfl ?_
  obtain ⟨ro1, w1, t1, m1, hW1, ht1, x1, hx1, hk1⟩ := zx_16 (l := l) (D := D) (tA := tA) (ex := ex) (sc := sc) hW (yv_rg _)
  subst hx1
  refine yl_call C0 hE (N := xm16) rfl rfl m1 (Nat.le_of_ble_eq_true rfl) (Nat.le_of_ble_eq_true rfl) (Nat.le_of_ble_eq_true rfl) (Nat.le_of_ble_eq_true rfl) (by show k + 0 ≤ 600000; omega) (by show n + 0 ≤ 7302250; omega) (zrec_0 hW) ?_
  show XLS p l e s m b below meth c D tA ex (.inl (321, yLV i, [x1], w1, k + 0, n + 0))
  refine yl_at C0 hE (S' := (322, yLV i, [], w1, k + 0, n + 0)) (q := _) rfl (sy_pop (ycat_0 hk1)) ?_
  refine yl_at C0 hE (S' := (323, yLV i, [.inr (.inr (1, 57))], w1, k + 0, n + 0)) (q := _) rfl rfl ?_
  refine yl_arg C0 hE hsc hl (j := 1) (by decide) (by omega) hL rfl rfl rfl rfl rfl ?_
  obtain ⟨ro2, w2, t2, m2, hW2, ht2, x2, hx2, hk2⟩ := zx_165 (l := l) (D := D) (tA := tA) (ex := ex) (sc := sc) hW1 (yv_rg _)
  subst hx2
  refine yl_call C0 hE (N := xm165) rfl rfl m2 (Nat.le_of_ble_eq_true rfl) (Nat.le_of_ble_eq_true rfl) (Nat.le_of_ble_eq_true rfl) (Nat.le_of_ble_eq_true rfl) (by show k + 0 + 0 ≤ 600000; omega) (by show n + 0 + 0 ≤ 7302250; omega) (zrec_57 hW1) ?_
  show XLS p l e s m b below meth c D tA ex (.inl (331, yLV i, [x2], w2, k + 0 + 0, n + 0 + 0))
  refine yl_at C0 hE (S' := (332, yLV i, [], w2, k + 0 + 0, n + 0 + 0)) (q := _) rfl (sy_pop (ycat_0 hk2)) ?_
  refine yl_at C0 hE (S' := (1683, yLV i, [], w2, k + 0 + 0, n + 0 + 0)) (q := _) rfl rfl ?_
  exact hK (t1 ++ t2) w2 _ _ (fun q hq => (List.mem_append.mp hq).elim (ht1 q) (ht2 q)) (by rw [← List.append_assoc]; exact ⟨_, hW2⟩) (by omega) (by omega)
theorem yop_3 (C0 : lw_At p s m meth c b L xs) (hE : XEnv D vwCl (tysX tA) ex (xSTX ++ [sc]) xSV xNW xNF (fun q : Nat => s.heap.size ≤ q) s) (hsc : ∀ j : Nat, j < L → sc[j]? = some (.inl (yv xs j, yv xs j))) (hl : sc.length = L) (hL : L ≤ 3072) {i : Nat} (hi : i + 5 < L) {ks : List Nat} {w : XW} {k n : Nat} (hW : zV ks w) (hk : k + 3 ≤ 600000) (hn : n + 19 ≤ 7302250) (hK : ∀ (tl : List Nat) (w' : XW) (k' n' : Nat), (∀ q ∈ tl, yfresh q = true) → zV (ks ++ tl) w' → k' ≤ k + 3 → n' ≤ n + 19 → XLS p l e s m b below meth c D tA ex (.inl (1683, yLV i, [], w', k', n'))) : XLS p l e s m b below meth c D tA ex (.inl (335, yLV i, [], w, k, n)) := by
  obtain ⟨S, hW⟩ := hW
  refine yl_at C0 hE (S' := (336, yLV i, [.inr (.inr (1, 0))], w, k, n)) (q := _) rfl rfl ?_
  refine yl_arg C0 hE hsc hl (j := 1) (by decide) (by omega) hL rfl rfl rfl rfl rfl ?_
  refine yl_arg C0 hE hsc hl (j := 2) (by decide) (by omega) hL rfl rfl rfl rfl rfl ?_
  refine yl_arg C0 hE hsc hl (j := 3) (by decide) (by omega) hL rfl rfl rfl rfl rfl ?_
  refine yl_arg C0 hE hsc hl (j := 4) (by decide) (by omega) hL rfl rfl rfl rfl rfl ?_
  refine yl_arg C0 hE hsc hl (j := 5) (by decide) (by omega) hL rfl rfl rfl rfl rfl ?_
  obtain ⟨ro1, w1, t1, m1, hW1, ht1, x1, hx1, hk1⟩ := zx_17 (l := l) (D := D) (tA := tA) (ex := ex) (sc := sc) hW (yv_rg _) (yv_rg _) (yv_rg _) (yv_rg _) (yv_rg _)
  subst hx1
  refine yl_call C0 hE (N := xm17) rfl rfl m1 (Nat.le_of_ble_eq_true rfl) (Nat.le_of_ble_eq_true rfl) (Nat.le_of_ble_eq_true rfl) (Nat.le_of_ble_eq_true rfl) (by show k + 0 ≤ 600000; omega) (by show n + 0 ≤ 7302250; omega) (zrec_0 hW) ?_
  show XLS p l e s m b below meth c D tA ex (.inl (364, yLV i, [x1], w1, k + 0, n + 0))
  refine yl_at C0 hE (S' := (365, yLV i, [], w1, k + 0, n + 0)) (q := _) rfl (sy_pop (ycat_0 hk1)) ?_
  refine yl_at C0 hE (S' := (366, yLV i, [.inr (.inr (1, 57))], w1, k + 0, n + 0)) (q := _) rfl rfl ?_
  refine yl_arg C0 hE hsc hl (j := 1) (by decide) (by omega) hL rfl rfl rfl rfl rfl ?_
  refine yl_arg C0 hE hsc hl (j := 2) (by decide) (by omega) hL rfl rfl rfl rfl rfl ?_
  refine yl_arg C0 hE hsc hl (j := 3) (by decide) (by omega) hL rfl rfl rfl rfl rfl ?_
  refine yl_arg C0 hE hsc hl (j := 4) (by decide) (by omega) hL rfl rfl rfl rfl rfl ?_
  refine yl_arg C0 hE hsc hl (j := 5) (by decide) (by omega) hL rfl rfl rfl rfl rfl ?_
  obtain ⟨ro2, w2, t2, m2, hW2, ht2, x2, hx2, hk2⟩ := zx_166 (l := l) (D := D) (tA := tA) (ex := ex) (sc := sc) hW1 (yv_rg _) (yv_rg _) (yv_rg _) (yv_rg _) (yv_rg _)
  subst hx2
  refine yl_call C0 hE (N := xm166) rfl rfl m2 (Nat.le_of_ble_eq_true rfl) (Nat.le_of_ble_eq_true rfl) (Nat.le_of_ble_eq_true rfl) (Nat.le_of_ble_eq_true rfl) (by show k + 0 + 0 ≤ 600000; omega) (by show n + 0 + 0 ≤ 7302250; omega) (zrec_57 hW1) ?_
  show XLS p l e s m b below meth c D tA ex (.inl (394, yLV i, [x2], w2, k + 0 + 0, n + 0 + 0))
  refine yl_at C0 hE (S' := (395, yLV i, [], w2, k + 0 + 0, n + 0 + 0)) (q := _) rfl (sy_pop (ycat_0 hk2)) ?_
  refine yl_at C0 hE (S' := (1683, yLV i, [], w2, k + 0 + 0, n + 0 + 0)) (q := _) rfl rfl ?_
  exact hK (t1 ++ t2) w2 _ _ (fun q hq => (List.mem_append.mp hq).elim (ht1 q) (ht2 q)) (by rw [← List.append_assoc]; exact ⟨_, hW2⟩) (by omega) (by omega)
theorem yop_4 (C0 : lw_At p s m meth c b L xs) (hE : XEnv D vwCl (tysX tA) ex (xSTX ++ [sc]) xSV xNW xNF (fun q : Nat => s.heap.size ≤ q) s) (hsc : ∀ j : Nat, j < L → sc[j]? = some (.inl (yv xs j, yv xs j))) (hl : sc.length = L) (hL : L ≤ 3072) {i : Nat} (hi : i + 5 < L) {ks : List Nat} {w : XW} {k n : Nat} (hW : zV ks w) (hk : k + 3 ≤ 600000) (hn : n + 19 ≤ 7302250) (hK : ∀ (tl : List Nat) (w' : XW) (k' n' : Nat), (∀ q ∈ tl, yfresh q = true) → zV (ks ++ tl) w' → k' ≤ k + 3 → n' ≤ n + 19 → XLS p l e s m b below meth c D tA ex (.inl (1683, yLV i, [], w', k', n'))) : XLS p l e s m b below meth c D tA ex (.inl (398, yLV i, [], w, k, n)) := by
  obtain ⟨S, hW⟩ := hW
  refine yl_at C0 hE (S' := (399, yLV i, [.inr (.inr (1, 0))], w, k, n)) (q := _) rfl rfl ?_
  refine yl_arg C0 hE hsc hl (j := 1) (by decide) (by omega) hL rfl rfl rfl rfl rfl ?_
  obtain ⟨ro1, w1, t1, m1, hW1, ht1, x1, hx1, hk1⟩ := zx_18 (l := l) (D := D) (tA := tA) (ex := ex) (sc := sc) hW (yv_rg _)
  subst hx1
  refine yl_call C0 hE (N := xm18) rfl rfl m1 (Nat.le_of_ble_eq_true rfl) (Nat.le_of_ble_eq_true rfl) (Nat.le_of_ble_eq_true rfl) (Nat.le_of_ble_eq_true rfl) (by show k + 0 ≤ 600000; omega) (by show n + 0 ≤ 7302250; omega) (zrec_0 hW) ?_
  show XLS p l e s m b below meth c D tA ex (.inl (407, yLV i, [x1], w1, k + 0, n + 0))
  refine yl_at C0 hE (S' := (408, yLV i, [], w1, k + 0, n + 0)) (q := _) rfl (sy_pop (ycat_0 hk1)) ?_
  refine yl_at C0 hE (S' := (409, yLV i, [.inr (.inr (1, 57))], w1, k + 0, n + 0)) (q := _) rfl rfl ?_
  refine yl_arg C0 hE hsc hl (j := 1) (by decide) (by omega) hL rfl rfl rfl rfl rfl ?_
  obtain ⟨ro2, w2, t2, m2, hW2, ht2, x2, hx2, hk2⟩ := zx_167 (l := l) (D := D) (tA := tA) (ex := ex) (sc := sc) hW1 (yv_rg _)
  subst hx2
  refine yl_call C0 hE (N := xm167) rfl rfl m2 (Nat.le_of_ble_eq_true rfl) (Nat.le_of_ble_eq_true rfl) (Nat.le_of_ble_eq_true rfl) (Nat.le_of_ble_eq_true rfl) (by show k + 0 + 0 ≤ 600000; omega) (by show n + 0 + 0 ≤ 7302250; omega) (zrec_57 hW1) ?_
  show XLS p l e s m b below meth c D tA ex (.inl (417, yLV i, [x2], w2, k + 0 + 0, n + 0 + 0))
  refine yl_at C0 hE (S' := (418, yLV i, [], w2, k + 0 + 0, n + 0 + 0)) (q := _) rfl (sy_pop (ycat_0 hk2)) ?_
  refine yl_at C0 hE (S' := (1683, yLV i, [], w2, k + 0 + 0, n + 0 + 0)) (q := _) rfl rfl ?_
  exact hK (t1 ++ t2) w2 _ _ (fun q hq => (List.mem_append.mp hq).elim (ht1 q) (ht2 q)) (by rw [← List.append_assoc]; exact ⟨_, hW2⟩) (by omega) (by omega)
theorem yop_5 (C0 : lw_At p s m meth c b L xs) (hE : XEnv D vwCl (tysX tA) ex (xSTX ++ [sc]) xSV xNW xNF (fun q : Nat => s.heap.size ≤ q) s) (hsc : ∀ j : Nat, j < L → sc[j]? = some (.inl (yv xs j, yv xs j))) (hl : sc.length = L) (hL : L ≤ 3072) {i : Nat} (hi : i + 5 < L) {ks : List Nat} {w : XW} {k n : Nat} (hW : zV ks w) (hk : k + 3 ≤ 600000) (hn : n + 19 ≤ 7302250) (hK : ∀ (tl : List Nat) (w' : XW) (k' n' : Nat), (∀ q ∈ tl, yfresh q = true) → zV (ks ++ tl) w' → k' ≤ k + 3 → n' ≤ n + 19 → XLS p l e s m b below meth c D tA ex (.inl (1683, yLV i, [], w', k', n'))) : XLS p l e s m b below meth c D tA ex (.inl (421, yLV i, [], w, k, n)) := by
  obtain ⟨S, hW⟩ := hW
  refine yl_at C0 hE (S' := (422, yLV i, [.inr (.inr (1, 0))], w, k, n)) (q := _) rfl rfl ?_
  refine yl_arg C0 hE hsc hl (j := 1) (by decide) (by omega) hL rfl rfl rfl rfl rfl ?_
  refine yl_arg C0 hE hsc hl (j := 2) (by decide) (by omega) hL rfl rfl rfl rfl rfl ?_
  obtain ⟨ro1, w1, t1, m1, hW1, ht1, x1, hx1, hk1⟩ := zx_19 (l := l) (D := D) (tA := tA) (ex := ex) (sc := sc) hW (yv_rg _) (yv_rg _)
  subst hx1
  refine yl_call C0 hE (N := xm19) rfl rfl m1 (Nat.le_of_ble_eq_true rfl) (Nat.le_of_ble_eq_true rfl) (Nat.le_of_ble_eq_true rfl) (Nat.le_of_ble_eq_true rfl) (by show k + 0 ≤ 600000; omega) (by show n + 0 ≤ 7302250; omega) (zrec_0 hW) ?_
  show XLS p l e s m b below meth c D tA ex (.inl (435, yLV i, [x1], w1, k + 0, n + 0))
  refine yl_at C0 hE (S' := (436, yLV i, [], w1, k + 0, n + 0)) (q := _) rfl (sy_pop (ycat_0 hk1)) ?_
  refine yl_at C0 hE (S' := (437, yLV i, [.inr (.inr (1, 57))], w1, k + 0, n + 0)) (q := _) rfl rfl ?_
  refine yl_arg C0 hE hsc hl (j := 1) (by decide) (by omega) hL rfl rfl rfl rfl rfl ?_
  refine yl_arg C0 hE hsc hl (j := 2) (by decide) (by omega) hL rfl rfl rfl rfl rfl ?_
  obtain ⟨ro2, w2, t2, m2, hW2, ht2, x2, hx2, hk2⟩ := zx_169 (l := l) (D := D) (tA := tA) (ex := ex) (sc := sc) hW1 (yv_rg _) (yv_rg _)
  subst hx2
  refine yl_call C0 hE (N := xm169) rfl rfl m2 (Nat.le_of_ble_eq_true rfl) (Nat.le_of_ble_eq_true rfl) (Nat.le_of_ble_eq_true rfl) (Nat.le_of_ble_eq_true rfl) (by show k + 0 + 0 ≤ 600000; omega) (by show n + 0 + 0 ≤ 7302250; omega) (zrec_57 hW1) ?_
  show XLS p l e s m b below meth c D tA ex (.inl (450, yLV i, [x2], w2, k + 0 + 0, n + 0 + 0))
  refine yl_at C0 hE (S' := (451, yLV i, [], w2, k + 0 + 0, n + 0 + 0)) (q := _) rfl (sy_pop (ycat_0 hk2)) ?_
  refine yl_at C0 hE (S' := (1683, yLV i, [], w2, k + 0 + 0, n + 0 + 0)) (q := _) rfl rfl ?_
  exact hK (t1 ++ t2) w2 _ _ (fun q hq => (List.mem_append.mp hq).elim (ht1 q) (ht2 q)) (by rw [← List.append_assoc]; exact ⟨_, hW2⟩) (by omega) (by omega)
theorem yop_7 (C0 : lw_At p s m meth c b L xs) (hE : XEnv D vwCl (tysX tA) ex (xSTX ++ [sc]) xSV xNW xNF (fun q : Nat => s.heap.size ≤ q) s) (hsc : ∀ j : Nat, j < L → sc[j]? = some (.inl (yv xs j, yv xs j))) (hl : sc.length = L) (hL : L ≤ 3072) {i : Nat} (hi : i + 5 < L) {ks : List Nat} {w : XW} {k n : Nat} (hW : zV ks w) (hk : k + 3 ≤ 600000) (hn : n + 19 ≤ 7302250) (hK : ∀ (tl : List Nat) (w' : XW) (k' n' : Nat), (∀ q ∈ tl, yfresh q = true) → zV (ks ++ tl) w' → k' ≤ k + 3 → n' ≤ n + 19 → XLS p l e s m b below meth c D tA ex (.inl (1683, yLV i, [], w', k', n'))) : XLS p l e s m b below meth c D tA ex (.inl (497, yLV i, [], w, k, n)) := by
  obtain ⟨S, hW⟩ := hW
  refine yl_at C0 hE (S' := (498, yLV i, [.inr (.inr (1, 0))], w, k, n)) (q := _) rfl rfl ?_
  refine yl_arg C0 hE hsc hl (j := 1) (by decide) (by omega) hL rfl rfl rfl rfl rfl ?_
  refine yl_arg C0 hE hsc hl (j := 2) (by decide) (by omega) hL rfl rfl rfl rfl rfl ?_
  by_cases hb1_508 : yv xs (i + 2) = 0
  · refine yl_at C0 hE (S' := (515, yLV i, [.inl (yv xs (i + 1), yv xs (i + 1)), .inr (.inr (1, 0))], w, k, n)) (q := _) rfl (sx_if (o := true) (xceq_of.trans (by simp [hb1_508]))) ?_
    refine yl_at C0 hE (S' := (516, yLV i, [.inl (0, 0), .inl (yv xs (i + 1), yv xs (i + 1)), .inr (.inr (1, 0))], w, k, n)) (q := _) rfl rfl ?_
    obtain ⟨ro1, w1, t1, m1, hW1, ht1, x1, hx1, hk1⟩ := zx_22 (l := l) (D := D) (tA := tA) (ex := ex) (sc := sc) hW (yv_rg _) (show (0 : Int) ≤ 0 ∧ (0 : Int) ≤ 1 by decide)
    subst hx1
    refine yl_call C0 hE (N := xm22) rfl rfl m1 (Nat.le_of_ble_eq_true rfl) (Nat.le_of_ble_eq_true rfl) (Nat.le_of_ble_eq_true rfl) (Nat.le_of_ble_eq_true rfl) (by show k + 0 ≤ 600000; omega) (by show n + 0 ≤ 7302250; omega) (zrec_0 hW) ?_
    show XLS p l e s m b below meth c D tA ex (.inl (519, yLV i, [x1], w1, k + 0, n + 0))
    refine yl_at C0 hE (S' := (520, yLV i, [], w1, k + 0, n + 0)) (q := _) rfl (sy_pop (ycat_0 hk1)) ?_
    refine yl_at C0 hE (S' := (521, yLV i, [.inr (.inr (1, 57))], w1, k + 0, n + 0)) (q := _) rfl rfl ?_
    refine yl_arg C0 hE hsc hl (j := 1) (by decide) (by omega) hL rfl rfl rfl rfl rfl ?_
    refine yl_arg C0 hE hsc hl (j := 2) (by decide) (by omega) hL rfl rfl rfl rfl rfl ?_
    by_cases hb2_531 : yv xs (i + 2) = 0
    · refine yl_at C0 hE (S' := (538, yLV i, [.inl (yv xs (i + 1), yv xs (i + 1)), .inr (.inr (1, 57))], w1, k + 0, n + 0)) (q := _) rfl (sx_if (o := true) (xceq_of.trans (by simp [hb2_531]))) ?_
      refine yl_at C0 hE (S' := (539, yLV i, [.inl (0, 0), .inl (yv xs (i + 1), yv xs (i + 1)), .inr (.inr (1, 57))], w1, k + 0, n + 0)) (q := _) rfl rfl ?_
      obtain ⟨ro2, w2, t2, m2, hW2, ht2, x2, hx2, hk2⟩ := zx_173 (l := l) (D := D) (tA := tA) (ex := ex) (sc := sc) hW1 (yv_rg _) (show (0 : Int) ≤ 0 ∧ (0 : Int) ≤ 1 by decide)
      subst hx2
      refine yl_call C0 hE (N := xm173) rfl rfl m2 (Nat.le_of_ble_eq_true rfl) (Nat.le_of_ble_eq_true rfl) (Nat.le_of_ble_eq_true rfl) (Nat.le_of_ble_eq_true rfl) (by show k + 0 + 0 ≤ 600000; omega) (by show n + 0 + 0 ≤ 7302250; omega) (zrec_57 hW1) ?_
      show XLS p l e s m b below meth c D tA ex (.inl (542, yLV i, [x2], w2, k + 0 + 0, n + 0 + 0))
      refine yl_at C0 hE (S' := (543, yLV i, [], w2, k + 0 + 0, n + 0 + 0)) (q := _) rfl (sy_pop (ycat_0 hk2)) ?_
      refine yl_at C0 hE (S' := (1683, yLV i, [], w2, k + 0 + 0, n + 0 + 0)) (q := _) rfl rfl ?_
      exact hK (t1 ++ t2) w2 _ _ (fun q hq => (List.mem_append.mp hq).elim (ht1 q) (ht2 q)) (by rw [← List.append_assoc]; exact ⟨_, hW2⟩) (by omega) (by omega)
    · refine yl_at C0 hE (S' := (534, yLV i, [.inl (yv xs (i + 1), yv xs (i + 1)), .inr (.inr (1, 57))], w1, k + 0, n + 0)) (q := _) rfl (sx_if (o := false) (xceq_of.trans (by simp [hb2_531]))) ?_
      refine yl_at C0 hE (S' := (535, yLV i, [.inl (1, 1), .inl (yv xs (i + 1), yv xs (i + 1)), .inr (.inr (1, 57))], w1, k + 0, n + 0)) (q := _) rfl rfl ?_
      refine yl_at C0 hE (S' := (539, yLV i, [.inl (1, 1), .inl (yv xs (i + 1), yv xs (i + 1)), .inr (.inr (1, 57))], w1, k + 0, n + 0)) (q := _) rfl rfl ?_
      obtain ⟨ro2, w2, t2, m2, hW2, ht2, x2, hx2, hk2⟩ := zx_173 (l := l) (D := D) (tA := tA) (ex := ex) (sc := sc) hW1 (yv_rg _) (show (0 : Int) ≤ 1 ∧ (1 : Int) ≤ 1 by decide)
      subst hx2
      refine yl_call C0 hE (N := xm173) rfl rfl m2 (Nat.le_of_ble_eq_true rfl) (Nat.le_of_ble_eq_true rfl) (Nat.le_of_ble_eq_true rfl) (Nat.le_of_ble_eq_true rfl) (by show k + 0 + 0 ≤ 600000; omega) (by show n + 0 + 0 ≤ 7302250; omega) (zrec_57 hW1) ?_
      show XLS p l e s m b below meth c D tA ex (.inl (542, yLV i, [x2], w2, k + 0 + 0, n + 0 + 0))
      refine yl_at C0 hE (S' := (543, yLV i, [], w2, k + 0 + 0, n + 0 + 0)) (q := _) rfl (sy_pop (ycat_0 hk2)) ?_
      refine yl_at C0 hE (S' := (1683, yLV i, [], w2, k + 0 + 0, n + 0 + 0)) (q := _) rfl rfl ?_
      exact hK (t1 ++ t2) w2 _ _ (fun q hq => (List.mem_append.mp hq).elim (ht1 q) (ht2 q)) (by rw [← List.append_assoc]; exact ⟨_, hW2⟩) (by omega) (by omega)
  · refine yl_at C0 hE (S' := (511, yLV i, [.inl (yv xs (i + 1), yv xs (i + 1)), .inr (.inr (1, 0))], w, k, n)) (q := _) rfl (sx_if (o := false) (xceq_of.trans (by simp [hb1_508]))) ?_
    refine yl_at C0 hE (S' := (512, yLV i, [.inl (1, 1), .inl (yv xs (i + 1), yv xs (i + 1)), .inr (.inr (1, 0))], w, k, n)) (q := _) rfl rfl ?_
    refine yl_at C0 hE (S' := (516, yLV i, [.inl (1, 1), .inl (yv xs (i + 1), yv xs (i + 1)), .inr (.inr (1, 0))], w, k, n)) (q := _) rfl rfl ?_
    obtain ⟨ro1, w1, t1, m1, hW1, ht1, x1, hx1, hk1⟩ := zx_22 (l := l) (D := D) (tA := tA) (ex := ex) (sc := sc) hW (yv_rg _) (show (0 : Int) ≤ 1 ∧ (1 : Int) ≤ 1 by decide)
    subst hx1
    refine yl_call C0 hE (N := xm22) rfl rfl m1 (Nat.le_of_ble_eq_true rfl) (Nat.le_of_ble_eq_true rfl) (Nat.le_of_ble_eq_true rfl) (Nat.le_of_ble_eq_true rfl) (by show k + 0 ≤ 600000; omega) (by show n + 0 ≤ 7302250; omega) (zrec_0 hW) ?_
    show XLS p l e s m b below meth c D tA ex (.inl (519, yLV i, [x1], w1, k + 0, n + 0))
    refine yl_at C0 hE (S' := (520, yLV i, [], w1, k + 0, n + 0)) (q := _) rfl (sy_pop (ycat_0 hk1)) ?_
    refine yl_at C0 hE (S' := (521, yLV i, [.inr (.inr (1, 57))], w1, k + 0, n + 0)) (q := _) rfl rfl ?_
    refine yl_arg C0 hE hsc hl (j := 1) (by decide) (by omega) hL rfl rfl rfl rfl rfl ?_
    refine yl_arg C0 hE hsc hl (j := 2) (by decide) (by omega) hL rfl rfl rfl rfl rfl ?_
    by_cases hb2_531 : yv xs (i + 2) = 0
    · refine yl_at C0 hE (S' := (538, yLV i, [.inl (yv xs (i + 1), yv xs (i + 1)), .inr (.inr (1, 57))], w1, k + 0, n + 0)) (q := _) rfl (sx_if (o := true) (xceq_of.trans (by simp [hb2_531]))) ?_
      refine yl_at C0 hE (S' := (539, yLV i, [.inl (0, 0), .inl (yv xs (i + 1), yv xs (i + 1)), .inr (.inr (1, 57))], w1, k + 0, n + 0)) (q := _) rfl rfl ?_
      obtain ⟨ro2, w2, t2, m2, hW2, ht2, x2, hx2, hk2⟩ := zx_173 (l := l) (D := D) (tA := tA) (ex := ex) (sc := sc) hW1 (yv_rg _) (show (0 : Int) ≤ 0 ∧ (0 : Int) ≤ 1 by decide)
      subst hx2
      refine yl_call C0 hE (N := xm173) rfl rfl m2 (Nat.le_of_ble_eq_true rfl) (Nat.le_of_ble_eq_true rfl) (Nat.le_of_ble_eq_true rfl) (Nat.le_of_ble_eq_true rfl) (by show k + 0 + 0 ≤ 600000; omega) (by show n + 0 + 0 ≤ 7302250; omega) (zrec_57 hW1) ?_
      show XLS p l e s m b below meth c D tA ex (.inl (542, yLV i, [x2], w2, k + 0 + 0, n + 0 + 0))
      refine yl_at C0 hE (S' := (543, yLV i, [], w2, k + 0 + 0, n + 0 + 0)) (q := _) rfl (sy_pop (ycat_0 hk2)) ?_
      refine yl_at C0 hE (S' := (1683, yLV i, [], w2, k + 0 + 0, n + 0 + 0)) (q := _) rfl rfl ?_
      exact hK (t1 ++ t2) w2 _ _ (fun q hq => (List.mem_append.mp hq).elim (ht1 q) (ht2 q)) (by rw [← List.append_assoc]; exact ⟨_, hW2⟩) (by omega) (by omega)
    · refine yl_at C0 hE (S' := (534, yLV i, [.inl (yv xs (i + 1), yv xs (i + 1)), .inr (.inr (1, 57))], w1, k + 0, n + 0)) (q := _) rfl (sx_if (o := false) (xceq_of.trans (by simp [hb2_531]))) ?_
      refine yl_at C0 hE (S' := (535, yLV i, [.inl (1, 1), .inl (yv xs (i + 1), yv xs (i + 1)), .inr (.inr (1, 57))], w1, k + 0, n + 0)) (q := _) rfl rfl ?_
      refine yl_at C0 hE (S' := (539, yLV i, [.inl (1, 1), .inl (yv xs (i + 1), yv xs (i + 1)), .inr (.inr (1, 57))], w1, k + 0, n + 0)) (q := _) rfl rfl ?_
      obtain ⟨ro2, w2, t2, m2, hW2, ht2, x2, hx2, hk2⟩ := zx_173 (l := l) (D := D) (tA := tA) (ex := ex) (sc := sc) hW1 (yv_rg _) (show (0 : Int) ≤ 1 ∧ (1 : Int) ≤ 1 by decide)
      subst hx2
      refine yl_call C0 hE (N := xm173) rfl rfl m2 (Nat.le_of_ble_eq_true rfl) (Nat.le_of_ble_eq_true rfl) (Nat.le_of_ble_eq_true rfl) (Nat.le_of_ble_eq_true rfl) (by show k + 0 + 0 ≤ 600000; omega) (by show n + 0 + 0 ≤ 7302250; omega) (zrec_57 hW1) ?_
      show XLS p l e s m b below meth c D tA ex (.inl (542, yLV i, [x2], w2, k + 0 + 0, n + 0 + 0))
      refine yl_at C0 hE (S' := (543, yLV i, [], w2, k + 0 + 0, n + 0 + 0)) (q := _) rfl (sy_pop (ycat_0 hk2)) ?_
      refine yl_at C0 hE (S' := (1683, yLV i, [], w2, k + 0 + 0, n + 0 + 0)) (q := _) rfl rfl ?_
      exact hK (t1 ++ t2) w2 _ _ (fun q hq => (List.mem_append.mp hq).elim (ht1 q) (ht2 q)) (by rw [← List.append_assoc]; exact ⟨_, hW2⟩) (by omega) (by omega)
theorem yop_8 (C0 : lw_At p s m meth c b L xs) (hE : XEnv D vwCl (tysX tA) ex (xSTX ++ [sc]) xSV xNW xNF (fun q : Nat => s.heap.size ≤ q) s) (hsc : ∀ j : Nat, j < L → sc[j]? = some (.inl (yv xs j, yv xs j))) (hl : sc.length = L) (hL : L ≤ 3072) {i : Nat} (hi : i + 5 < L) {ks : List Nat} {w : XW} {k n : Nat} (hW : zV ks w) (hk : k + 3 ≤ 600000) (hn : n + 19 ≤ 7302250) (hK : ∀ (tl : List Nat) (w' : XW) (k' n' : Nat), (∀ q ∈ tl, yfresh q = true) → zV (ks ++ tl) w' → k' ≤ k + 3 → n' ≤ n + 19 → XLS p l e s m b below meth c D tA ex (.inl (1683, yLV i, [], w', k', n'))) : XLS p l e s m b below meth c D tA ex (.inl (546, yLV i, [], w, k, n)) := by
  obtain ⟨S, hW⟩ := hW
  refine yl_at C0 hE (S' := (547, yLV i, [.inr (.inr (1, 0))], w, k, n)) (q := _) rfl rfl ?_
  refine yl_arg C0 hE hsc hl (j := 1) (by decide) (by omega) hL rfl rfl rfl rfl rfl ?_
  refine yl_arg C0 hE hsc hl (j := 2) (by decide) (by omega) hL rfl rfl rfl rfl rfl ?_
  refine yl_arg C0 hE hsc hl (j := 3) (by decide) (by omega) hL rfl rfl rfl rfl rfl ?_
  refine yl_arg C0 hE hsc hl (j := 4) (by decide) (by omega) hL rfl rfl rfl rfl rfl ?_
  obtain ⟨ro1, w1, t1, m1, hW1, ht1, x1, hx1, hk1⟩ := zx_28 (l := l) (D := D) (tA := tA) (ex := ex) (sc := sc) hW (yv_rg _) (yv_rg _) (yv_rg _) (yv_rg _)
  subst hx1
  refine yl_call C0 hE (N := xm28) rfl rfl m1 (Nat.le_of_ble_eq_true rfl) (Nat.le_of_ble_eq_true rfl) (Nat.le_of_ble_eq_true rfl) (Nat.le_of_ble_eq_true rfl) (by show k + 0 ≤ 600000; omega) (by show n + 0 ≤ 7302250; omega) (zrec_0 hW) ?_
  show XLS p l e s m b below meth c D tA ex (.inl (570, yLV i, [x1], w1, k + 0, n + 0))
  refine yl_at C0 hE (S' := (571, yLV i, [], w1, k + 0, n + 0)) (q := _) rfl (sy_pop (ycat_0 hk1)) ?_
  refine yl_at C0 hE (S' := (572, yLV i, [.inr (.inr (1, 57))], w1, k + 0, n + 0)) (q := _) rfl rfl ?_
  refine yl_arg C0 hE hsc hl (j := 1) (by decide) (by omega) hL rfl rfl rfl rfl rfl ?_
  refine yl_arg C0 hE hsc hl (j := 2) (by decide) (by omega) hL rfl rfl rfl rfl rfl ?_
  refine yl_arg C0 hE hsc hl (j := 3) (by decide) (by omega) hL rfl rfl rfl rfl rfl ?_
  refine yl_arg C0 hE hsc hl (j := 4) (by decide) (by omega) hL rfl rfl rfl rfl rfl ?_
  obtain ⟨ro2, w2, t2, m2, hW2, ht2, x2, hx2, hk2⟩ := zx_176 (l := l) (D := D) (tA := tA) (ex := ex) (sc := sc) hW1 (yv_rg _) (yv_rg _) (yv_rg _) (yv_rg _)
  subst hx2
  refine yl_call C0 hE (N := xm176) rfl rfl m2 (Nat.le_of_ble_eq_true rfl) (Nat.le_of_ble_eq_true rfl) (Nat.le_of_ble_eq_true rfl) (Nat.le_of_ble_eq_true rfl) (by show k + 0 + 0 ≤ 600000; omega) (by show n + 0 + 0 ≤ 7302250; omega) (zrec_57 hW1) ?_
  show XLS p l e s m b below meth c D tA ex (.inl (595, yLV i, [x2], w2, k + 0 + 0, n + 0 + 0))
  refine yl_at C0 hE (S' := (596, yLV i, [], w2, k + 0 + 0, n + 0 + 0)) (q := _) rfl (sy_pop (ycat_0 hk2)) ?_
  refine yl_at C0 hE (S' := (1683, yLV i, [], w2, k + 0 + 0, n + 0 + 0)) (q := _) rfl rfl ?_
  exact hK (t1 ++ t2) w2 _ _ (fun q hq => (List.mem_append.mp hq).elim (ht1 q) (ht2 q)) (by rw [← List.append_assoc]; exact ⟨_, hW2⟩) (by omega) (by omega)
theorem yop_9 (C0 : lw_At p s m meth c b L xs) (hE : XEnv D vwCl (tysX tA) ex (xSTX ++ [sc]) xSV xNW xNF (fun q : Nat => s.heap.size ≤ q) s) (hsc : ∀ j : Nat, j < L → sc[j]? = some (.inl (yv xs j, yv xs j))) (hl : sc.length = L) (hL : L ≤ 3072) {i : Nat} (hi : i + 5 < L) {ks : List Nat} {w : XW} {k n : Nat} (hW : zV ks w) (hk : k + 3 ≤ 600000) (hn : n + 19 ≤ 7302250) (hK : ∀ (tl : List Nat) (w' : XW) (k' n' : Nat), (∀ q ∈ tl, yfresh q = true) → zV (ks ++ tl) w' → k' ≤ k + 3 → n' ≤ n + 19 → XLS p l e s m b below meth c D tA ex (.inl (1683, yLV i, [], w', k', n'))) : XLS p l e s m b below meth c D tA ex (.inl (599, yLV i, [], w, k, n)) := by
  obtain ⟨S, hW⟩ := hW
  refine yl_at C0 hE (S' := (600, yLV i, [.inr (.inr (1, 0))], w, k, n)) (q := _) rfl rfl ?_
  refine yl_arg C0 hE hsc hl (j := 1) (by decide) (by omega) hL rfl rfl rfl rfl rfl ?_
  refine yl_arg C0 hE hsc hl (j := 2) (by decide) (by omega) hL rfl rfl rfl rfl rfl ?_
  obtain ⟨ro1, w1, t1, m1, hW1, ht1, x1, hx1, hk1⟩ := zx_32 (l := l) (D := D) (tA := tA) (ex := ex) (sc := sc) hW (yv_rg _) (yv_rg _)
  subst hx1
  refine yl_call C0 hE (N := xm32) rfl rfl m1 (Nat.le_of_ble_eq_true rfl) (Nat.le_of_ble_eq_true rfl) (Nat.le_of_ble_eq_true rfl) (Nat.le_of_ble_eq_true rfl) (by show k + 0 ≤ 600000; omega) (by show n + 0 ≤ 7302250; omega) (zrec_0 hW) ?_
  show XLS p l e s m b below meth c D tA ex (.inl (613, yLV i, [x1], w1, k + 0, n + 0))
  refine yl_at C0 hE (S' := (614, yLV i, [], w1, k + 0, n + 0)) (q := _) rfl (sy_pop (ycat_0 hk1)) ?_
  refine yl_at C0 hE (S' := (615, yLV i, [.inr (.inr (1, 57))], w1, k + 0, n + 0)) (q := _) rfl rfl ?_
  refine yl_arg C0 hE hsc hl (j := 1) (by decide) (by omega) hL rfl rfl rfl rfl rfl ?_
  refine yl_arg C0 hE hsc hl (j := 2) (by decide) (by omega) hL rfl rfl rfl rfl rfl ?_
  obtain ⟨ro2, w2, t2, m2, hW2, ht2, x2, hx2, hk2⟩ := zx_179 (l := l) (D := D) (tA := tA) (ex := ex) (sc := sc) hW1 (yv_rg _) (yv_rg _)
  subst hx2
  refine yl_call C0 hE (N := xm179) rfl rfl m2 (Nat.le_of_ble_eq_true rfl) (Nat.le_of_ble_eq_true rfl) (Nat.le_of_ble_eq_true rfl) (Nat.le_of_ble_eq_true rfl) (by show k + 0 + 0 ≤ 600000; omega) (by show n + 0 + 0 ≤ 7302250; omega) (zrec_57 hW1) ?_
  show XLS p l e s m b below meth c D tA ex (.inl (628, yLV i, [x2], w2, k + 0 + 0, n + 0 + 0))
  refine yl_at C0 hE (S' := (629, yLV i, [], w2, k + 0 + 0, n + 0 + 0)) (q := _) rfl (sy_pop (ycat_0 hk2)) ?_
  refine yl_at C0 hE (S' := (1683, yLV i, [], w2, k + 0 + 0, n + 0 + 0)) (q := _) rfl rfl ?_
  exact hK (t1 ++ t2) w2 _ _ (fun q hq => (List.mem_append.mp hq).elim (ht1 q) (ht2 q)) (by rw [← List.append_assoc]; exact ⟨_, hW2⟩) (by omega) (by omega)
theorem yop_10 (C0 : lw_At p s m meth c b L xs) (hE : XEnv D vwCl (tysX tA) ex (xSTX ++ [sc]) xSV xNW xNF (fun q : Nat => s.heap.size ≤ q) s) (hsc : ∀ j : Nat, j < L → sc[j]? = some (.inl (yv xs j, yv xs j))) (hl : sc.length = L) (hL : L ≤ 3072) {i : Nat} (hi : i + 5 < L) {ks : List Nat} {w : XW} {k n : Nat} (hW : zV ks w) (hk : k + 3 ≤ 600000) (hn : n + 19 ≤ 7302250) (hK : ∀ (tl : List Nat) (w' : XW) (k' n' : Nat), (∀ q ∈ tl, yfresh q = true) → zV (ks ++ tl) w' → k' ≤ k + 3 → n' ≤ n + 19 → XLS p l e s m b below meth c D tA ex (.inl (1683, yLV i, [], w', k', n'))) : XLS p l e s m b below meth c D tA ex (.inl (632, yLV i, [], w, k, n)) := by
  obtain ⟨S, hW⟩ := hW
  refine yl_at C0 hE (S' := (633, yLV i, [.inr (.inr (1, 0))], w, k, n)) (q := _) rfl rfl ?_
  refine yl_arg C0 hE hsc hl (j := 1) (by decide) (by omega) hL rfl rfl rfl rfl rfl ?_
  refine yl_arg C0 hE hsc hl (j := 2) (by decide) (by omega) hL rfl rfl rfl rfl rfl ?_
  obtain ⟨ro1, w1, t1, m1, hW1, ht1, x1, hx1, hk1⟩ := zx_34 (l := l) (D := D) (tA := tA) (ex := ex) (sc := sc) hW (yv_rg _) (yv_rg _)
  subst hx1
  refine yl_call C0 hE (N := xm34) rfl rfl m1 (Nat.le_of_ble_eq_true rfl) (Nat.le_of_ble_eq_true rfl) (Nat.le_of_ble_eq_true rfl) (Nat.le_of_ble_eq_true rfl) (by show k + 0 ≤ 600000; omega) (by show n + 0 ≤ 7302250; omega) (zrec_0 hW) ?_
  show XLS p l e s m b below meth c D tA ex (.inl (646, yLV i, [x1], w1, k + 0, n + 0))
  refine yl_at C0 hE (S' := (647, yLV i, [], w1, k + 0, n + 0)) (q := _) rfl (sy_pop (ycat_0 hk1)) ?_
  refine yl_at C0 hE (S' := (648, yLV i, [.inr (.inr (1, 57))], w1, k + 0, n + 0)) (q := _) rfl rfl ?_
  refine yl_arg C0 hE hsc hl (j := 1) (by decide) (by omega) hL rfl rfl rfl rfl rfl ?_
  refine yl_arg C0 hE hsc hl (j := 2) (by decide) (by omega) hL rfl rfl rfl rfl rfl ?_
  obtain ⟨ro2, w2, t2, m2, hW2, ht2, x2, hx2, hk2⟩ := zx_181 (l := l) (D := D) (tA := tA) (ex := ex) (sc := sc) hW1 (yv_rg _) (yv_rg _)
  subst hx2
  refine yl_call C0 hE (N := xm181) rfl rfl m2 (Nat.le_of_ble_eq_true rfl) (Nat.le_of_ble_eq_true rfl) (Nat.le_of_ble_eq_true rfl) (Nat.le_of_ble_eq_true rfl) (by show k + 0 + 0 ≤ 600000; omega) (by show n + 0 + 0 ≤ 7302250; omega) (zrec_57 hW1) ?_
  show XLS p l e s m b below meth c D tA ex (.inl (661, yLV i, [x2], w2, k + 0 + 0, n + 0 + 0))
  refine yl_at C0 hE (S' := (662, yLV i, [], w2, k + 0 + 0, n + 0 + 0)) (q := _) rfl (sy_pop (ycat_0 hk2)) ?_
  refine yl_at C0 hE (S' := (1683, yLV i, [], w2, k + 0 + 0, n + 0 + 0)) (q := _) rfl rfl ?_
  exact hK (t1 ++ t2) w2 _ _ (fun q hq => (List.mem_append.mp hq).elim (ht1 q) (ht2 q)) (by rw [← List.append_assoc]; exact ⟨_, hW2⟩) (by omega) (by omega)
theorem yop_11 (C0 : lw_At p s m meth c b L xs) (hE : XEnv D vwCl (tysX tA) ex (xSTX ++ [sc]) xSV xNW xNF (fun q : Nat => s.heap.size ≤ q) s) (hsc : ∀ j : Nat, j < L → sc[j]? = some (.inl (yv xs j, yv xs j))) (hl : sc.length = L) (hL : L ≤ 3072) {i : Nat} (hi : i + 5 < L) {ks : List Nat} {w : XW} {k n : Nat} (hW : zV ks w) (hk : k + 3 ≤ 600000) (hn : n + 19 ≤ 7302250) (hK : ∀ (tl : List Nat) (w' : XW) (k' n' : Nat), (∀ q ∈ tl, yfresh q = true) → zV (ks ++ tl) w' → k' ≤ k + 3 → n' ≤ n + 19 → XLS p l e s m b below meth c D tA ex (.inl (1683, yLV i, [], w', k', n'))) : XLS p l e s m b below meth c D tA ex (.inl (665, yLV i, [], w, k, n)) := by
  obtain ⟨S, hW⟩ := hW
  refine yl_at C0 hE (S' := (666, yLV i, [.inr (.inr (1, 0))], w, k, n)) (q := _) rfl rfl ?_
  refine yl_arg C0 hE hsc hl (j := 1) (by decide) (by omega) hL rfl rfl rfl rfl rfl ?_
  obtain ⟨ro1, w1, t1, m1, hW1, ht1, x1, hx1, hk1⟩ := zx_35 (l := l) (D := D) (tA := tA) (ex := ex) (sc := sc) hW (yv_rg _)
  subst hx1
  refine yl_call C0 hE (N := xm35) rfl rfl m1 (Nat.le_of_ble_eq_true rfl) (Nat.le_of_ble_eq_true rfl) (Nat.le_of_ble_eq_true rfl) (Nat.le_of_ble_eq_true rfl) (by show k + 0 ≤ 600000; omega) (by show n + 0 ≤ 7302250; omega) (zrec_0 hW) ?_
  show XLS p l e s m b below meth c D tA ex (.inl (674, yLV i, [x1], w1, k + 0, n + 0))
  refine yl_at C0 hE (S' := (675, yLV i, [], w1, k + 0, n + 0)) (q := _) rfl (sy_pop (ycat_0 hk1)) ?_
  refine yl_at C0 hE (S' := (676, yLV i, [.inr (.inr (1, 57))], w1, k + 0, n + 0)) (q := _) rfl rfl ?_
  refine yl_arg C0 hE hsc hl (j := 1) (by decide) (by omega) hL rfl rfl rfl rfl rfl ?_
  obtain ⟨ro2, w2, t2, m2, hW2, ht2, x2, hx2, hk2⟩ := zx_182 (l := l) (D := D) (tA := tA) (ex := ex) (sc := sc) hW1 (yv_rg _)
  subst hx2
  refine yl_call C0 hE (N := xm182) rfl rfl m2 (Nat.le_of_ble_eq_true rfl) (Nat.le_of_ble_eq_true rfl) (Nat.le_of_ble_eq_true rfl) (Nat.le_of_ble_eq_true rfl) (by show k + 0 + 0 ≤ 600000; omega) (by show n + 0 + 0 ≤ 7302250; omega) (zrec_57 hW1) ?_
  show XLS p l e s m b below meth c D tA ex (.inl (684, yLV i, [x2], w2, k + 0 + 0, n + 0 + 0))
  refine yl_at C0 hE (S' := (685, yLV i, [], w2, k + 0 + 0, n + 0 + 0)) (q := _) rfl (sy_pop (ycat_0 hk2)) ?_
  refine yl_at C0 hE (S' := (1683, yLV i, [], w2, k + 0 + 0, n + 0 + 0)) (q := _) rfl rfl ?_
  exact hK (t1 ++ t2) w2 _ _ (fun q hq => (List.mem_append.mp hq).elim (ht1 q) (ht2 q)) (by rw [← List.append_assoc]; exact ⟨_, hW2⟩) (by omega) (by omega)
theorem yop_12 (C0 : lw_At p s m meth c b L xs) (hE : XEnv D vwCl (tysX tA) ex (xSTX ++ [sc]) xSV xNW xNF (fun q : Nat => s.heap.size ≤ q) s) (hsc : ∀ j : Nat, j < L → sc[j]? = some (.inl (yv xs j, yv xs j))) (hl : sc.length = L) (hL : L ≤ 3072) {i : Nat} (hi : i + 5 < L) {ks : List Nat} {w : XW} {k n : Nat} (hW : zV ks w) (hk : k + 3 ≤ 600000) (hn : n + 19 ≤ 7302250) (hK : ∀ (tl : List Nat) (w' : XW) (k' n' : Nat), (∀ q ∈ tl, yfresh q = true) → zV (ks ++ tl) w' → k' ≤ k + 3 → n' ≤ n + 19 → XLS p l e s m b below meth c D tA ex (.inl (1683, yLV i, [], w', k', n'))) : XLS p l e s m b below meth c D tA ex (.inl (688, yLV i, [], w, k, n)) := by
  obtain ⟨S, hW⟩ := hW
  refine yl_at C0 hE (S' := (689, yLV i, [.inr (.inr (1, 0))], w, k, n)) (q := _) rfl rfl ?_
  refine yl_arg C0 hE hsc hl (j := 1) (by decide) (by omega) hL rfl rfl rfl rfl rfl ?_
  obtain ⟨ro1, w1, t1, m1, hW1, ht1, x1, hx1, hk1⟩ := zx_36 (l := l) (D := D) (tA := tA) (ex := ex) (sc := sc) hW (yv_rg _)
  subst hx1
  refine yl_call C0 hE (N := xm36) rfl rfl m1 (Nat.le_of_ble_eq_true rfl) (Nat.le_of_ble_eq_true rfl) (Nat.le_of_ble_eq_true rfl) (Nat.le_of_ble_eq_true rfl) (by show k + 0 ≤ 600000; omega) (by show n + 0 ≤ 7302250; omega) (zrec_0 hW) ?_
  show XLS p l e s m b below meth c D tA ex (.inl (697, yLV i, [x1], w1, k + 0, n + 0))
  refine yl_at C0 hE (S' := (698, yLV i, [], w1, k + 0, n + 0)) (q := _) rfl (sy_pop (ycat_0 hk1)) ?_
  refine yl_at C0 hE (S' := (699, yLV i, [.inr (.inr (1, 57))], w1, k + 0, n + 0)) (q := _) rfl rfl ?_
  refine yl_arg C0 hE hsc hl (j := 1) (by decide) (by omega) hL rfl rfl rfl rfl rfl ?_
  obtain ⟨ro2, w2, t2, m2, hW2, ht2, x2, hx2, hk2⟩ := zx_183 (l := l) (D := D) (tA := tA) (ex := ex) (sc := sc) hW1 (yv_rg _)
  subst hx2
  refine yl_call C0 hE (N := xm183) rfl rfl m2 (Nat.le_of_ble_eq_true rfl) (Nat.le_of_ble_eq_true rfl) (Nat.le_of_ble_eq_true rfl) (Nat.le_of_ble_eq_true rfl) (by show k + 0 + 0 ≤ 600000; omega) (by show n + 0 + 0 ≤ 7302250; omega) (zrec_57 hW1) ?_
  show XLS p l e s m b below meth c D tA ex (.inl (707, yLV i, [x2], w2, k + 0 + 0, n + 0 + 0))
  refine yl_at C0 hE (S' := (708, yLV i, [], w2, k + 0 + 0, n + 0 + 0)) (q := _) rfl (sy_pop (ycat_0 hk2)) ?_
  refine yl_at C0 hE (S' := (1683, yLV i, [], w2, k + 0 + 0, n + 0 + 0)) (q := _) rfl rfl ?_
  exact hK (t1 ++ t2) w2 _ _ (fun q hq => (List.mem_append.mp hq).elim (ht1 q) (ht2 q)) (by rw [← List.append_assoc]; exact ⟨_, hW2⟩) (by omega) (by omega)
theorem yop_13 (C0 : lw_At p s m meth c b L xs) (hE : XEnv D vwCl (tysX tA) ex (xSTX ++ [sc]) xSV xNW xNF (fun q : Nat => s.heap.size ≤ q) s) (hsc : ∀ j : Nat, j < L → sc[j]? = some (.inl (yv xs j, yv xs j))) (hl : sc.length = L) (hL : L ≤ 3072) {i : Nat} (hi : i + 5 < L) {ks : List Nat} {w : XW} {k n : Nat} (hW : zV ks w) (hk : k + 3 ≤ 600000) (hn : n + 19 ≤ 7302250) (hK : ∀ (tl : List Nat) (w' : XW) (k' n' : Nat), (∀ q ∈ tl, yfresh q = true) → zV (ks ++ tl) w' → k' ≤ k + 3 → n' ≤ n + 19 → XLS p l e s m b below meth c D tA ex (.inl (1683, yLV i, [], w', k', n'))) : XLS p l e s m b below meth c D tA ex (.inl (711, yLV i, [], w, k, n)) := by
  obtain ⟨S, hW⟩ := hW
  refine yl_at C0 hE (S' := (712, yLV i, [.inr (.inr (1, 0))], w, k, n)) (q := _) rfl rfl ?_
  refine yl_arg C0 hE hsc hl (j := 1) (by decide) (by omega) hL rfl rfl rfl rfl rfl ?_
  refine yl_arg C0 hE hsc hl (j := 2) (by decide) (by omega) hL rfl rfl rfl rfl rfl ?_
  refine yl_arg C0 hE hsc hl (j := 3) (by decide) (by omega) hL rfl rfl rfl rfl rfl ?_
  refine yl_arg C0 hE hsc hl (j := 4) (by decide) (by omega) hL rfl rfl rfl rfl rfl ?_
  obtain ⟨ro1, w1, t1, m1, hW1, ht1, x1, hx1, hk1⟩ := zx_37 (l := l) (D := D) (tA := tA) (ex := ex) (sc := sc) hW (yv_rg _) (yv_rg _) (yv_rg _) (yv_rg _)
  subst hx1
  refine yl_call C0 hE (N := xm37) rfl rfl m1 (Nat.le_of_ble_eq_true rfl) (Nat.le_of_ble_eq_true rfl) (Nat.le_of_ble_eq_true rfl) (Nat.le_of_ble_eq_true rfl) (by show k + 0 ≤ 600000; omega) (by show n + 0 ≤ 7302250; omega) (zrec_0 hW) ?_
  show XLS p l e s m b below meth c D tA ex (.inl (735, yLV i, [x1], w1, k + 0, n + 0))
  refine yl_at C0 hE (S' := (736, yLV i, [], w1, k + 0, n + 0)) (q := _) rfl (sy_pop (ycat_0 hk1)) ?_
  refine yl_at C0 hE (S' := (737, yLV i, [.inr (.inr (1, 57))], w1, k + 0, n + 0)) (q := _) rfl rfl ?_
  refine yl_arg C0 hE hsc hl (j := 1) (by decide) (by omega) hL rfl rfl rfl rfl rfl ?_
  refine yl_arg C0 hE hsc hl (j := 2) (by decide) (by omega) hL rfl rfl rfl rfl rfl ?_
  refine yl_arg C0 hE hsc hl (j := 3) (by decide) (by omega) hL rfl rfl rfl rfl rfl ?_
  refine yl_arg C0 hE hsc hl (j := 4) (by decide) (by omega) hL rfl rfl rfl rfl rfl ?_
  obtain ⟨ro2, w2, t2, m2, hW2, ht2, x2, hx2, hk2⟩ := zx_187 (l := l) (D := D) (tA := tA) (ex := ex) (sc := sc) hW1 (yv_rg _) (yv_rg _) (yv_rg _) (yv_rg _)
  subst hx2
  refine yl_call C0 hE (N := xm187) rfl rfl m2 (Nat.le_of_ble_eq_true rfl) (Nat.le_of_ble_eq_true rfl) (Nat.le_of_ble_eq_true rfl) (Nat.le_of_ble_eq_true rfl) (by show k + 0 + 0 ≤ 600000; omega) (by show n + 0 + 0 ≤ 7302250; omega) (zrec_57 hW1) ?_
  show XLS p l e s m b below meth c D tA ex (.inl (760, yLV i, [x2], w2, k + 0 + 0, n + 0 + 0))
  refine yl_at C0 hE (S' := (761, yLV i, [], w2, k + 0 + 0, n + 0 + 0)) (q := _) rfl (sy_pop (ycat_0 hk2)) ?_
  refine yl_at C0 hE (S' := (1683, yLV i, [], w2, k + 0 + 0, n + 0 + 0)) (q := _) rfl rfl ?_
  exact hK (t1 ++ t2) w2 _ _ (fun q hq => (List.mem_append.mp hq).elim (ht1 q) (ht2 q)) (by rw [← List.append_assoc]; exact ⟨_, hW2⟩) (by omega) (by omega)
theorem yop_14 (C0 : lw_At p s m meth c b L xs) (hE : XEnv D vwCl (tysX tA) ex (xSTX ++ [sc]) xSV xNW xNF (fun q : Nat => s.heap.size ≤ q) s) (hsc : ∀ j : Nat, j < L → sc[j]? = some (.inl (yv xs j, yv xs j))) (hl : sc.length = L) (hL : L ≤ 3072) {i : Nat} (hi : i + 5 < L) {ks : List Nat} {w : XW} {k n : Nat} (hW : zV ks w) (hk : k + 3 ≤ 600000) (hn : n + 19 ≤ 7302250) (hK : ∀ (tl : List Nat) (w' : XW) (k' n' : Nat), (∀ q ∈ tl, yfresh q = true) → zV (ks ++ tl) w' → k' ≤ k + 3 → n' ≤ n + 19 → XLS p l e s m b below meth c D tA ex (.inl (1683, yLV i, [], w', k', n'))) : XLS p l e s m b below meth c D tA ex (.inl (764, yLV i, [], w, k, n)) := by
  obtain ⟨S, hW⟩ := hW
  refine yl_at C0 hE (S' := (765, yLV i, [.inr (.inr (1, 0))], w, k, n)) (q := _) rfl rfl ?_
  refine yl_arg C0 hE hsc hl (j := 1) (by decide) (by omega) hL rfl rfl rfl rfl rfl ?_
  refine yl_arg C0 hE hsc hl (j := 2) (by decide) (by omega) hL rfl rfl rfl rfl rfl ?_
  obtain ⟨ro1, w1, t1, m1, hW1, ht1, x1, hx1, hk1⟩ := zx_41 (l := l) (D := D) (tA := tA) (ex := ex) (sc := sc) hW (yv_rg _) (yv_rg _)
  subst hx1
  refine yl_call C0 hE (N := xm41) rfl rfl m1 (Nat.le_of_ble_eq_true rfl) (Nat.le_of_ble_eq_true rfl) (Nat.le_of_ble_eq_true rfl) (Nat.le_of_ble_eq_true rfl) (by show k + 0 ≤ 600000; omega) (by show n + 0 ≤ 7302250; omega) (zrec_0 hW) ?_
  show XLS p l e s m b below meth c D tA ex (.inl (778, yLV i, [x1], w1, k + 0, n + 0))
  refine yl_at C0 hE (S' := (779, yLV i, [], w1, k + 0, n + 0)) (q := _) rfl (sy_pop (ycat_0 hk1)) ?_
  refine yl_at C0 hE (S' := (780, yLV i, [.inr (.inr (1, 57))], w1, k + 0, n + 0)) (q := _) rfl rfl ?_
  refine yl_arg C0 hE hsc hl (j := 1) (by decide) (by omega) hL rfl rfl rfl rfl rfl ?_
  refine yl_arg C0 hE hsc hl (j := 2) (by decide) (by omega) hL rfl rfl rfl rfl rfl ?_
  obtain ⟨ro2, w2, t2, m2, hW2, ht2, x2, hx2, hk2⟩ := zx_189 (l := l) (D := D) (tA := tA) (ex := ex) (sc := sc) hW1 (yv_rg _) (yv_rg _)
  subst hx2
  refine yl_call C0 hE (N := xm189) rfl rfl m2 (Nat.le_of_ble_eq_true rfl) (Nat.le_of_ble_eq_true rfl) (Nat.le_of_ble_eq_true rfl) (Nat.le_of_ble_eq_true rfl) (by show k + 0 + 0 ≤ 600000; omega) (by show n + 0 + 0 ≤ 7302250; omega) (zrec_57 hW1) ?_
  show XLS p l e s m b below meth c D tA ex (.inl (793, yLV i, [x2], w2, k + 0 + 0, n + 0 + 0))
  refine yl_at C0 hE (S' := (794, yLV i, [], w2, k + 0 + 0, n + 0 + 0)) (q := _) rfl (sy_pop (ycat_0 hk2)) ?_
  refine yl_at C0 hE (S' := (1683, yLV i, [], w2, k + 0 + 0, n + 0 + 0)) (q := _) rfl rfl ?_
  exact hK (t1 ++ t2) w2 _ _ (fun q hq => (List.mem_append.mp hq).elim (ht1 q) (ht2 q)) (by rw [← List.append_assoc]; exact ⟨_, hW2⟩) (by omega) (by omega)
theorem yop_15 (C0 : lw_At p s m meth c b L xs) (hE : XEnv D vwCl (tysX tA) ex (xSTX ++ [sc]) xSV xNW xNF (fun q : Nat => s.heap.size ≤ q) s) (hsc : ∀ j : Nat, j < L → sc[j]? = some (.inl (yv xs j, yv xs j))) (hl : sc.length = L) (hL : L ≤ 3072) {i : Nat} (hi : i + 5 < L) {ks : List Nat} {w : XW} {k n : Nat} (hW : zV ks w) (hk : k + 3 ≤ 600000) (hn : n + 19 ≤ 7302250) (hK : ∀ (tl : List Nat) (w' : XW) (k' n' : Nat), (∀ q ∈ tl, yfresh q = true) → zV (ks ++ tl) w' → k' ≤ k + 3 → n' ≤ n + 19 → XLS p l e s m b below meth c D tA ex (.inl (1683, yLV i, [], w', k', n'))) : XLS p l e s m b below meth c D tA ex (.inl (797, yLV i, [], w, k, n)) := by
  obtain ⟨S, hW⟩ := hW
  refine yl_at C0 hE (S' := (798, yLV i, [.inr (.inr (1, 0))], w, k, n)) (q := _) rfl rfl ?_
  refine yl_arg C0 hE hsc hl (j := 1) (by decide) (by omega) hL rfl rfl rfl rfl rfl ?_
  refine yl_arg C0 hE hsc hl (j := 2) (by decide) (by omega) hL rfl rfl rfl rfl rfl ?_
  obtain ⟨ro1, w1, t1, m1, hW1, ht1, x1, hx1, hk1⟩ := zx_45 (l := l) (D := D) (tA := tA) (ex := ex) (sc := sc) hW (yv_rg _) (yv_rg _)
  subst hx1
  refine yl_call C0 hE (N := xm45) rfl rfl m1 (Nat.le_of_ble_eq_true rfl) (Nat.le_of_ble_eq_true rfl) (Nat.le_of_ble_eq_true rfl) (Nat.le_of_ble_eq_true rfl) (by show k + 0 ≤ 600000; omega) (by show n + 0 ≤ 7302250; omega) (zrec_0 hW) ?_
  show XLS p l e s m b below meth c D tA ex (.inl (811, yLV i, [x1], w1, k + 0, n + 0))
  refine yl_at C0 hE (S' := (812, yLV i, [], w1, k + 0, n + 0)) (q := _) rfl (sy_pop (ycat_0 hk1)) ?_
  refine yl_at C0 hE (S' := (813, yLV i, [.inr (.inr (1, 57))], w1, k + 0, n + 0)) (q := _) rfl rfl ?_
  refine yl_arg C0 hE hsc hl (j := 1) (by decide) (by omega) hL rfl rfl rfl rfl rfl ?_
  refine yl_arg C0 hE hsc hl (j := 2) (by decide) (by omega) hL rfl rfl rfl rfl rfl ?_
  obtain ⟨ro2, w2, t2, m2, hW2, ht2, x2, hx2, hk2⟩ := zx_194 (l := l) (D := D) (tA := tA) (ex := ex) (sc := sc) hW1 (yv_rg _) (yv_rg _)
  subst hx2
  refine yl_call C0 hE (N := xm194) rfl rfl m2 (Nat.le_of_ble_eq_true rfl) (Nat.le_of_ble_eq_true rfl) (Nat.le_of_ble_eq_true rfl) (Nat.le_of_ble_eq_true rfl) (by show k + 0 + 0 ≤ 600000; omega) (by show n + 0 + 0 ≤ 7302250; omega) (zrec_57 hW1) ?_
  show XLS p l e s m b below meth c D tA ex (.inl (826, yLV i, [x2], w2, k + 0 + 0, n + 0 + 0))
  refine yl_at C0 hE (S' := (827, yLV i, [], w2, k + 0 + 0, n + 0 + 0)) (q := _) rfl (sy_pop (ycat_0 hk2)) ?_
  refine yl_at C0 hE (S' := (1683, yLV i, [], w2, k + 0 + 0, n + 0 + 0)) (q := _) rfl rfl ?_
  exact hK (t1 ++ t2) w2 _ _ (fun q hq => (List.mem_append.mp hq).elim (ht1 q) (ht2 q)) (by rw [← List.append_assoc]; exact ⟨_, hW2⟩) (by omega) (by omega)
theorem yop_16 (C0 : lw_At p s m meth c b L xs) (hE : XEnv D vwCl (tysX tA) ex (xSTX ++ [sc]) xSV xNW xNF (fun q : Nat => s.heap.size ≤ q) s) (hsc : ∀ j : Nat, j < L → sc[j]? = some (.inl (yv xs j, yv xs j))) (hl : sc.length = L) (hL : L ≤ 3072) {i : Nat} (hi : i + 5 < L) {ks : List Nat} {w : XW} {k n : Nat} (hW : zV ks w) (hk : k + 3 ≤ 600000) (hn : n + 19 ≤ 7302250) (hK : ∀ (tl : List Nat) (w' : XW) (k' n' : Nat), (∀ q ∈ tl, yfresh q = true) → zV (ks ++ tl) w' → k' ≤ k + 3 → n' ≤ n + 19 → XLS p l e s m b below meth c D tA ex (.inl (1683, yLV i, [], w', k', n'))) : XLS p l e s m b below meth c D tA ex (.inl (830, yLV i, [], w, k, n)) := by
  obtain ⟨S, hW⟩ := hW
  refine yl_at C0 hE (S' := (831, yLV i, [.inr (.inr (1, 0))], w, k, n)) (q := _) rfl rfl ?_
  refine yl_arg C0 hE hsc hl (j := 1) (by decide) (by omega) hL rfl rfl rfl rfl rfl ?_
  obtain ⟨ro1, w1, t1, m1, hW1, ht1, x1, hx1, hk1⟩ := zx_47 (l := l) (D := D) (tA := tA) (ex := ex) (sc := sc) hW (yv_rg _)
  subst hx1
  refine yl_call C0 hE (N := xm47) rfl rfl m1 (Nat.le_of_ble_eq_true rfl) (Nat.le_of_ble_eq_true rfl) (Nat.le_of_ble_eq_true rfl) (Nat.le_of_ble_eq_true rfl) (by show k + 0 ≤ 600000; omega) (by show n + 0 ≤ 7302250; omega) (zrec_0 hW) ?_
  show XLS p l e s m b below meth c D tA ex (.inl (839, yLV i, [x1], w1, k + 0, n + 0))
  refine yl_at C0 hE (S' := (840, yLV i, [], w1, k + 0, n + 0)) (q := _) rfl (sy_pop (ycat_0 hk1)) ?_
  refine yl_at C0 hE (S' := (841, yLV i, [.inr (.inr (1, 57))], w1, k + 0, n + 0)) (q := _) rfl rfl ?_
  refine yl_arg C0 hE hsc hl (j := 1) (by decide) (by omega) hL rfl rfl rfl rfl rfl ?_
  obtain ⟨ro2, w2, t2, m2, hW2, ht2, x2, hx2, hk2⟩ := zx_195 (l := l) (D := D) (tA := tA) (ex := ex) (sc := sc) hW1 (yv_rg _)
  subst hx2
  refine yl_call C0 hE (N := xm195) rfl rfl m2 (Nat.le_of_ble_eq_true rfl) (Nat.le_of_ble_eq_true rfl) (Nat.le_of_ble_eq_true rfl) (Nat.le_of_ble_eq_true rfl) (by show k + 0 + 0 ≤ 600000; omega) (by show n + 0 + 0 ≤ 7302250; omega) (zrec_57 hW1) ?_
  show XLS p l e s m b below meth c D tA ex (.inl (849, yLV i, [x2], w2, k + 0 + 0, n + 0 + 0))
  refine yl_at C0 hE (S' := (850, yLV i, [], w2, k + 0 + 0, n + 0 + 0)) (q := _) rfl (sy_pop (ycat_0 hk2)) ?_
  refine yl_at C0 hE (S' := (1683, yLV i, [], w2, k + 0 + 0, n + 0 + 0)) (q := _) rfl rfl ?_
  exact hK (t1 ++ t2) w2 _ _ (fun q hq => (List.mem_append.mp hq).elim (ht1 q) (ht2 q)) (by rw [← List.append_assoc]; exact ⟨_, hW2⟩) (by omega) (by omega)
theorem yop_17 (C0 : lw_At p s m meth c b L xs) (hE : XEnv D vwCl (tysX tA) ex (xSTX ++ [sc]) xSV xNW xNF (fun q : Nat => s.heap.size ≤ q) s) (hsc : ∀ j : Nat, j < L → sc[j]? = some (.inl (yv xs j, yv xs j))) (hl : sc.length = L) (hL : L ≤ 3072) {i : Nat} (hi : i + 5 < L) {ks : List Nat} {w : XW} {k n : Nat} (hW : zV ks w) (hk : k + 3 ≤ 600000) (hn : n + 19 ≤ 7302250) (hK : ∀ (tl : List Nat) (w' : XW) (k' n' : Nat), (∀ q ∈ tl, yfresh q = true) → zV (ks ++ tl) w' → k' ≤ k + 3 → n' ≤ n + 19 → XLS p l e s m b below meth c D tA ex (.inl (1683, yLV i, [], w', k', n'))) : XLS p l e s m b below meth c D tA ex (.inl (853, yLV i, [], w, k, n)) := by
  obtain ⟨S, hW⟩ := hW
  refine yl_at C0 hE (S' := (854, yLV i, [.inr (.inr (1, 0))], w, k, n)) (q := _) rfl rfl ?_
  refine yl_arg C0 hE hsc hl (j := 1) (by decide) (by omega) hL rfl rfl rfl rfl rfl ?_
  refine yl_arg C0 hE hsc hl (j := 2) (by decide) (by omega) hL rfl rfl rfl rfl rfl ?_
  obtain ⟨ro1, w1, t1, m1, hW1, ht1, x1, hx1, hk1⟩ := zx_49 (l := l) (D := D) (tA := tA) (ex := ex) (sc := sc) hW (yv_rg _) (yv_rg _)
  subst hx1
  refine yl_call C0 hE (N := xm49) rfl rfl m1 (Nat.le_of_ble_eq_true rfl) (Nat.le_of_ble_eq_true rfl) (Nat.le_of_ble_eq_true rfl) (Nat.le_of_ble_eq_true rfl) (by show k + 0 ≤ 600000; omega) (by show n + 0 ≤ 7302250; omega) (zrec_0 hW) ?_
  show XLS p l e s m b below meth c D tA ex (.inl (867, yLV i, [x1], w1, k + 0, n + 0))
  refine yl_at C0 hE (S' := (868, yLV i, [], w1, k + 0, n + 0)) (q := _) rfl (sy_pop (ycat_0 hk1)) ?_
  refine yl_at C0 hE (S' := (869, yLV i, [.inr (.inr (1, 57))], w1, k + 0, n + 0)) (q := _) rfl rfl ?_
  refine yl_arg C0 hE hsc hl (j := 1) (by decide) (by omega) hL rfl rfl rfl rfl rfl ?_
  refine yl_arg C0 hE hsc hl (j := 2) (by decide) (by omega) hL rfl rfl rfl rfl rfl ?_
  obtain ⟨ro2, w2, t2, m2, hW2, ht2, x2, hx2, hk2⟩ := zx_196 (l := l) (D := D) (tA := tA) (ex := ex) (sc := sc) hW1 (yv_rg _) (yv_rg _)
  subst hx2
  refine yl_call C0 hE (N := xm196) rfl rfl m2 (Nat.le_of_ble_eq_true rfl) (Nat.le_of_ble_eq_true rfl) (Nat.le_of_ble_eq_true rfl) (Nat.le_of_ble_eq_true rfl) (by show k + 0 + 0 ≤ 600000; omega) (by show n + 0 + 0 ≤ 7302250; omega) (zrec_57 hW1) ?_
  show XLS p l e s m b below meth c D tA ex (.inl (882, yLV i, [x2], w2, k + 0 + 0, n + 0 + 0))
  refine yl_at C0 hE (S' := (883, yLV i, [], w2, k + 0 + 0, n + 0 + 0)) (q := _) rfl (sy_pop (ycat_0 hk2)) ?_
  refine yl_at C0 hE (S' := (1683, yLV i, [], w2, k + 0 + 0, n + 0 + 0)) (q := _) rfl rfl ?_
  exact hK (t1 ++ t2) w2 _ _ (fun q hq => (List.mem_append.mp hq).elim (ht1 q) (ht2 q)) (by rw [← List.append_assoc]; exact ⟨_, hW2⟩) (by omega) (by omega)
theorem yop_18 (C0 : lw_At p s m meth c b L xs) (hE : XEnv D vwCl (tysX tA) ex (xSTX ++ [sc]) xSV xNW xNF (fun q : Nat => s.heap.size ≤ q) s) (hsc : ∀ j : Nat, j < L → sc[j]? = some (.inl (yv xs j, yv xs j))) (hl : sc.length = L) (hL : L ≤ 3072) {i : Nat} (hi : i + 5 < L) {ks : List Nat} {w : XW} {k n : Nat} (hW : zV ks w) (hk : k + 3 ≤ 600000) (hn : n + 19 ≤ 7302250) (hK : ∀ (tl : List Nat) (w' : XW) (k' n' : Nat), (∀ q ∈ tl, yfresh q = true) → zV (ks ++ tl) w' → k' ≤ k + 3 → n' ≤ n + 19 → XLS p l e s m b below meth c D tA ex (.inl (1683, yLV i, [], w', k', n'))) : XLS p l e s m b below meth c D tA ex (.inl (886, yLV i, [], w, k, n)) := by
  obtain ⟨S, hW⟩ := hW
  refine yl_at C0 hE (S' := (887, yLV i, [.inr (.inr (1, 0))], w, k, n)) (q := _) rfl rfl ?_
  obtain ⟨ro1, w1, t1, m1, hW1, ht1, x1, hx1, hk1⟩ := zx_51 (l := l) (D := D) (tA := tA) (ex := ex) (sc := sc) hW
  subst hx1
  refine yl_call C0 hE (N := xm51) rfl rfl m1 (Nat.le_of_ble_eq_true rfl) (Nat.le_of_ble_eq_true rfl) (Nat.le_of_ble_eq_true rfl) (Nat.le_of_ble_eq_true rfl) (by show k + 0 ≤ 600000; omega) (by show n + 0 ≤ 7302250; omega) (zrec_0 hW) ?_
  show XLS p l e s m b below meth c D tA ex (.inl (890, yLV i, [x1], w1, k + 0, n + 0))
  refine yl_at C0 hE (S' := (891, yLV i, [], w1, k + 0, n + 0)) (q := _) rfl (sy_pop (ycat_0 hk1)) ?_
  refine yl_at C0 hE (S' := (892, yLV i, [.inr (.inr (1, 57))], w1, k + 0, n + 0)) (q := _) rfl rfl ?_
  obtain ⟨ro2, w2, t2, m2, hW2, ht2, x2, hx2, hk2⟩ := zx_198 (l := l) (D := D) (tA := tA) (ex := ex) (sc := sc) hW1
  subst hx2
  refine yl_call C0 hE (N := xm198) rfl rfl m2 (Nat.le_of_ble_eq_true rfl) (Nat.le_of_ble_eq_true rfl) (Nat.le_of_ble_eq_true rfl) (Nat.le_of_ble_eq_true rfl) (by show k + 0 + 0 ≤ 600000; omega) (by show n + 0 + 0 ≤ 7302250; omega) (zrec_57 hW1) ?_
  show XLS p l e s m b below meth c D tA ex (.inl (895, yLV i, [x2], w2, k + 0 + 0, n + 0 + 0))
  refine yl_at C0 hE (S' := (896, yLV i, [], w2, k + 0 + 0, n + 0 + 0)) (q := _) rfl (sy_pop (ycat_0 hk2)) ?_
  refine yl_at C0 hE (S' := (1683, yLV i, [], w2, k + 0 + 0, n + 0 + 0)) (q := _) rfl rfl ?_
  exact hK (t1 ++ t2) w2 _ _ (fun q hq => (List.mem_append.mp hq).elim (ht1 q) (ht2 q)) (by rw [← List.append_assoc]; exact ⟨_, hW2⟩) (by omega) (by omega)
theorem yop_19 (C0 : lw_At p s m meth c b L xs) (hE : XEnv D vwCl (tysX tA) ex (xSTX ++ [sc]) xSV xNW xNF (fun q : Nat => s.heap.size ≤ q) s) (hsc : ∀ j : Nat, j < L → sc[j]? = some (.inl (yv xs j, yv xs j))) (hl : sc.length = L) (hL : L ≤ 3072) {i : Nat} (hi : i + 5 < L) {ks : List Nat} {w : XW} {k n : Nat} (hW : zV ks w) (hk : k + 3 ≤ 600000) (hn : n + 19 ≤ 7302250) (hK : ∀ (tl : List Nat) (w' : XW) (k' n' : Nat), (∀ q ∈ tl, yfresh q = true) → zV (ks ++ tl) w' → k' ≤ k + 3 → n' ≤ n + 19 → XLS p l e s m b below meth c D tA ex (.inl (1683, yLV i, [], w', k', n'))) : XLS p l e s m b below meth c D tA ex (.inl (899, yLV i, [], w, k, n)) := by
  obtain ⟨S, hW⟩ := hW
  refine yl_at C0 hE (S' := (900, yLV i, [.inr (.inr (1, 0))], w, k, n)) (q := _) rfl rfl ?_
  refine yl_arg C0 hE hsc hl (j := 1) (by decide) (by omega) hL rfl rfl rfl rfl rfl ?_
  obtain ⟨ro1, w1, t1, m1, hW1, ht1, x1, hx1, hk1⟩ := zx_72 (l := l) (D := D) (tA := tA) (ex := ex) (sc := sc) hW (yv_rg _)
  subst hx1
  refine yl_call C0 hE (N := xm72) rfl rfl m1 (Nat.le_of_ble_eq_true rfl) (Nat.le_of_ble_eq_true rfl) (Nat.le_of_ble_eq_true rfl) (Nat.le_of_ble_eq_true rfl) (by show k + 1 ≤ 600000; omega) (by show n + 4 ≤ 7302250; omega) (zrec_0 hW) ?_
  show XLS p l e s m b below meth c D tA ex (.inl (908, yLV i, [x1], w1, k + 1, n + 4))
  refine yl_at C0 hE (S' := (909, yLV i, [], w1, k + 1, n + 4)) (q := _) rfl (sy_pop (ycat_0 hk1)) ?_
  refine yl_at C0 hE (S' := (910, yLV i, [.inr (.inr (1, 57))], w1, k + 1, n + 4)) (q := _) rfl rfl ?_
  refine yl_arg C0 hE hsc hl (j := 1) (by decide) (by omega) hL rfl rfl rfl rfl rfl ?_
  obtain ⟨ro2, w2, t2, m2, hW2, ht2, x2, hx2, hk2⟩ := zx_207 (l := l) (D := D) (tA := tA) (ex := ex) (sc := sc) hW1 (yv_rg _)
  subst hx2
  refine yl_call C0 hE (N := xm207) rfl rfl m2 (Nat.le_of_ble_eq_true rfl) (Nat.le_of_ble_eq_true rfl) (Nat.le_of_ble_eq_true rfl) (Nat.le_of_ble_eq_true rfl) (by show k + 1 + 0 ≤ 600000; omega) (by show n + 4 + 0 ≤ 7302250; omega) (zrec_57 hW1) ?_
  show XLS p l e s m b below meth c D tA ex (.inl (918, yLV i, [x2], w2, k + 1 + 0, n + 4 + 0))
  refine yl_at C0 hE (S' := (919, yLV i, [], w2, k + 1 + 0, n + 4 + 0)) (q := _) rfl (sy_pop (ycat_0 hk2)) ?_
  refine yl_at C0 hE (S' := (1683, yLV i, [], w2, k + 1 + 0, n + 4 + 0)) (q := _) rfl rfl ?_
  exact hK (t1 ++ t2) w2 _ _ (fun q hq => (List.mem_append.mp hq).elim (ht1 q) (ht2 q)) (by rw [← List.append_assoc]; exact ⟨_, hW2⟩) (by omega) (by omega)
theorem yop_20 (C0 : lw_At p s m meth c b L xs) (hE : XEnv D vwCl (tysX tA) ex (xSTX ++ [sc]) xSV xNW xNF (fun q : Nat => s.heap.size ≤ q) s) (hsc : ∀ j : Nat, j < L → sc[j]? = some (.inl (yv xs j, yv xs j))) (hl : sc.length = L) (hL : L ≤ 3072) {i : Nat} (hi : i + 5 < L) {ks : List Nat} {w : XW} {k n : Nat} (hW : zV ks w) (hk : k + 3 ≤ 600000) (hn : n + 19 ≤ 7302250) (hK : ∀ (tl : List Nat) (w' : XW) (k' n' : Nat), (∀ q ∈ tl, yfresh q = true) → zV (ks ++ tl) w' → k' ≤ k + 3 → n' ≤ n + 19 → XLS p l e s m b below meth c D tA ex (.inl (1683, yLV i, [], w', k', n'))) : XLS p l e s m b below meth c D tA ex (.inl (922, yLV i, [], w, k, n)) := by
  obtain ⟨S, hW⟩ := hW
  refine yl_at C0 hE (S' := (923, yLV i, [.inr (.inr (1, 0))], w, k, n)) (q := _) rfl rfl ?_
  refine yl_arg C0 hE hsc hl (j := 1) (by decide) (by omega) hL rfl rfl rfl rfl rfl ?_
  refine yl_arg C0 hE hsc hl (j := 2) (by decide) (by omega) hL rfl rfl rfl rfl rfl ?_
  obtain ⟨ro1, w1, t1, m1, hW1, ht1, x1, hx1, hk1⟩ := zx_74 (l := l) (D := D) (tA := tA) (ex := ex) (sc := sc) hW (yv_rg _) (yv_rg _)
  subst hx1
  refine yl_call C0 hE (N := xm74) rfl rfl m1 (Nat.le_of_ble_eq_true rfl) (Nat.le_of_ble_eq_true rfl) (Nat.le_of_ble_eq_true rfl) (Nat.le_of_ble_eq_true rfl) (by show k + 0 ≤ 600000; omega) (by show n + 0 ≤ 7302250; omega) (zrec_0 hW) ?_
  show XLS p l e s m b below meth c D tA ex (.inl (936, yLV i, [x1], w1, k + 0, n + 0))
  refine yl_at C0 hE (S' := (937, yLV i, [], w1, k + 0, n + 0)) (q := _) rfl (sy_pop (ycat_0 hk1)) ?_
  refine yl_at C0 hE (S' := (938, yLV i, [.inr (.inr (1, 57))], w1, k + 0, n + 0)) (q := _) rfl rfl ?_
  refine yl_arg C0 hE hsc hl (j := 1) (by decide) (by omega) hL rfl rfl rfl rfl rfl ?_
  refine yl_arg C0 hE hsc hl (j := 2) (by decide) (by omega) hL rfl rfl rfl rfl rfl ?_
  obtain ⟨ro2, w2, t2, m2, hW2, ht2, x2, hx2, hk2⟩ := zx_208 (l := l) (D := D) (tA := tA) (ex := ex) (sc := sc) hW1 (yv_rg _) (yv_rg _)
  subst hx2
  refine yl_call C0 hE (N := xm208) rfl rfl m2 (Nat.le_of_ble_eq_true rfl) (Nat.le_of_ble_eq_true rfl) (Nat.le_of_ble_eq_true rfl) (Nat.le_of_ble_eq_true rfl) (by show k + 0 + 0 ≤ 600000; omega) (by show n + 0 + 0 ≤ 7302250; omega) (zrec_57 hW1) ?_
  show XLS p l e s m b below meth c D tA ex (.inl (951, yLV i, [x2], w2, k + 0 + 0, n + 0 + 0))
  refine yl_at C0 hE (S' := (952, yLV i, [], w2, k + 0 + 0, n + 0 + 0)) (q := _) rfl (sy_pop (ycat_0 hk2)) ?_
  refine yl_at C0 hE (S' := (1683, yLV i, [], w2, k + 0 + 0, n + 0 + 0)) (q := _) rfl rfl ?_
  exact hK (t1 ++ t2) w2 _ _ (fun q hq => (List.mem_append.mp hq).elim (ht1 q) (ht2 q)) (by rw [← List.append_assoc]; exact ⟨_, hW2⟩) (by omega) (by omega)
theorem yop_21 (C0 : lw_At p s m meth c b L xs) (hE : XEnv D vwCl (tysX tA) ex (xSTX ++ [sc]) xSV xNW xNF (fun q : Nat => s.heap.size ≤ q) s) (hsc : ∀ j : Nat, j < L → sc[j]? = some (.inl (yv xs j, yv xs j))) (hl : sc.length = L) (hL : L ≤ 3072) {i : Nat} (hi : i + 5 < L) {ks : List Nat} {w : XW} {k n : Nat} (hW : zV ks w) (hk : k + 3 ≤ 600000) (hn : n + 19 ≤ 7302250) (hK : ∀ (tl : List Nat) (w' : XW) (k' n' : Nat), (∀ q ∈ tl, yfresh q = true) → zV (ks ++ tl) w' → k' ≤ k + 3 → n' ≤ n + 19 → XLS p l e s m b below meth c D tA ex (.inl (1683, yLV i, [], w', k', n'))) : XLS p l e s m b below meth c D tA ex (.inl (955, yLV i, [], w, k, n)) := by
  obtain ⟨S, hW⟩ := hW
  refine yl_at C0 hE (S' := (956, yLV i, [.inr (.inr (1, 0))], w, k, n)) (q := _) rfl rfl ?_
  refine yl_arg C0 hE hsc hl (j := 1) (by decide) (by omega) hL rfl rfl rfl rfl rfl ?_
  obtain ⟨ro1, w1, t1, m1, hW1, ht1, x1, hx1, hk1⟩ := zx_76 (l := l) (D := D) (tA := tA) (ex := ex) (sc := sc) hW (yv_rg _)
  subst hx1
  refine yl_call C0 hE (N := xm76) rfl rfl m1 (Nat.le_of_ble_eq_true rfl) (Nat.le_of_ble_eq_true rfl) (Nat.le_of_ble_eq_true rfl) (Nat.le_of_ble_eq_true rfl) (by show k + 0 ≤ 600000; omega) (by show n + 0 ≤ 7302250; omega) (zrec_0 hW) ?_
  show XLS p l e s m b below meth c D tA ex (.inl (964, yLV i, [x1], w1, k + 0, n + 0))
  refine yl_at C0 hE (S' := (965, yLV i, [], w1, k + 0, n + 0)) (q := _) rfl (sy_pop (ycat_0 hk1)) ?_
  refine yl_at C0 hE (S' := (966, yLV i, [.inr (.inr (1, 57))], w1, k + 0, n + 0)) (q := _) rfl rfl ?_
  refine yl_arg C0 hE hsc hl (j := 1) (by decide) (by omega) hL rfl rfl rfl rfl rfl ?_
  obtain ⟨ro2, w2, t2, m2, hW2, ht2, x2, hx2, hk2⟩ := zx_211 (l := l) (D := D) (tA := tA) (ex := ex) (sc := sc) hW1 (yv_rg _)
  subst hx2
  refine yl_call C0 hE (N := xm211) rfl rfl m2 (Nat.le_of_ble_eq_true rfl) (Nat.le_of_ble_eq_true rfl) (Nat.le_of_ble_eq_true rfl) (Nat.le_of_ble_eq_true rfl) (by show k + 0 + 0 ≤ 600000; omega) (by show n + 0 + 0 ≤ 7302250; omega) (zrec_57 hW1) ?_
  show XLS p l e s m b below meth c D tA ex (.inl (974, yLV i, [x2], w2, k + 0 + 0, n + 0 + 0))
  refine yl_at C0 hE (S' := (975, yLV i, [], w2, k + 0 + 0, n + 0 + 0)) (q := _) rfl (sy_pop (ycat_0 hk2)) ?_
  refine yl_at C0 hE (S' := (1683, yLV i, [], w2, k + 0 + 0, n + 0 + 0)) (q := _) rfl rfl ?_
  exact hK (t1 ++ t2) w2 _ _ (fun q hq => (List.mem_append.mp hq).elim (ht1 q) (ht2 q)) (by rw [← List.append_assoc]; exact ⟨_, hW2⟩) (by omega) (by omega)
theorem yop_22 (C0 : lw_At p s m meth c b L xs) (hE : XEnv D vwCl (tysX tA) ex (xSTX ++ [sc]) xSV xNW xNF (fun q : Nat => s.heap.size ≤ q) s) (hsc : ∀ j : Nat, j < L → sc[j]? = some (.inl (yv xs j, yv xs j))) (hl : sc.length = L) (hL : L ≤ 3072) {i : Nat} (hi : i + 5 < L) {ks : List Nat} {w : XW} {k n : Nat} (hW : zV ks w) (hk : k + 3 ≤ 600000) (hn : n + 19 ≤ 7302250) (hK : ∀ (tl : List Nat) (w' : XW) (k' n' : Nat), (∀ q ∈ tl, yfresh q = true) → zV (ks ++ tl) w' → k' ≤ k + 3 → n' ≤ n + 19 → XLS p l e s m b below meth c D tA ex (.inl (1683, yLV i, [], w', k', n'))) : XLS p l e s m b below meth c D tA ex (.inl (978, yLV i, [], w, k, n)) := by
  obtain ⟨S, hW⟩ := hW
  refine yl_at C0 hE (S' := (979, yLV i, [.inr (.inr (1, 0))], w, k, n)) (q := _) rfl rfl ?_
  refine yl_arg C0 hE hsc hl (j := 1) (by decide) (by omega) hL rfl rfl rfl rfl rfl ?_
  obtain ⟨ro1, w1, t1, m1, hW1, ht1, x1, hx1, hk1⟩ := zx_78 (l := l) (D := D) (tA := tA) (ex := ex) (sc := sc) hW (yv_rg _)
  subst hx1
  refine yl_call C0 hE (N := xm78) rfl rfl m1 (Nat.le_of_ble_eq_true rfl) (Nat.le_of_ble_eq_true rfl) (Nat.le_of_ble_eq_true rfl) (Nat.le_of_ble_eq_true rfl) (by show k + 0 ≤ 600000; omega) (by show n + 0 ≤ 7302250; omega) (zrec_0 hW) ?_
  show XLS p l e s m b below meth c D tA ex (.inl (987, yLV i, [x1], w1, k + 0, n + 0))
  refine yl_at C0 hE (S' := (988, yLV i, [], w1, k + 0, n + 0)) (q := _) rfl (sy_pop (ycat_0 hk1)) ?_
  refine yl_at C0 hE (S' := (989, yLV i, [.inr (.inr (1, 57))], w1, k + 0, n + 0)) (q := _) rfl rfl ?_
  refine yl_arg C0 hE hsc hl (j := 1) (by decide) (by omega) hL rfl rfl rfl rfl rfl ?_
  obtain ⟨ro2, w2, t2, m2, hW2, ht2, x2, hx2, hk2⟩ := zx_212 (l := l) (D := D) (tA := tA) (ex := ex) (sc := sc) hW1 (yv_rg _)
  subst hx2
  refine yl_call C0 hE (N := xm212) rfl rfl m2 (Nat.le_of_ble_eq_true rfl) (Nat.le_of_ble_eq_true rfl) (Nat.le_of_ble_eq_true rfl) (Nat.le_of_ble_eq_true rfl) (by show k + 0 + 0 ≤ 600000; omega) (by show n + 0 + 0 ≤ 7302250; omega) (zrec_57 hW1) ?_
  show XLS p l e s m b below meth c D tA ex (.inl (997, yLV i, [x2], w2, k + 0 + 0, n + 0 + 0))
  refine yl_at C0 hE (S' := (998, yLV i, [], w2, k + 0 + 0, n + 0 + 0)) (q := _) rfl (sy_pop (ycat_0 hk2)) ?_
  refine yl_at C0 hE (S' := (1683, yLV i, [], w2, k + 0 + 0, n + 0 + 0)) (q := _) rfl rfl ?_
  exact hK (t1 ++ t2) w2 _ _ (fun q hq => (List.mem_append.mp hq).elim (ht1 q) (ht2 q)) (by rw [← List.append_assoc]; exact ⟨_, hW2⟩) (by omega) (by omega)
theorem yop_23 (C0 : lw_At p s m meth c b L xs) (hE : XEnv D vwCl (tysX tA) ex (xSTX ++ [sc]) xSV xNW xNF (fun q : Nat => s.heap.size ≤ q) s) (hsc : ∀ j : Nat, j < L → sc[j]? = some (.inl (yv xs j, yv xs j))) (hl : sc.length = L) (hL : L ≤ 3072) {i : Nat} (hi : i + 5 < L) {ks : List Nat} {w : XW} {k n : Nat} (hW : zV ks w) (hk : k + 3 ≤ 600000) (hn : n + 19 ≤ 7302250) (hK : ∀ (tl : List Nat) (w' : XW) (k' n' : Nat), (∀ q ∈ tl, yfresh q = true) → zV (ks ++ tl) w' → k' ≤ k + 3 → n' ≤ n + 19 → XLS p l e s m b below meth c D tA ex (.inl (1683, yLV i, [], w', k', n'))) : XLS p l e s m b below meth c D tA ex (.inl (1001, yLV i, [], w, k, n)) := by
  obtain ⟨S, hW⟩ := hW
  refine yl_at C0 hE (S' := (1002, yLV i, [.inr (.inr (1, 0))], w, k, n)) (q := _) rfl rfl ?_
  refine yl_arg C0 hE hsc hl (j := 1) (by decide) (by omega) hL rfl rfl rfl rfl rfl ?_
  refine yl_arg C0 hE hsc hl (j := 2) (by decide) (by omega) hL rfl rfl rfl rfl rfl ?_
  obtain ⟨ro1, w1, t1, m1, hW1, ht1, x1, hx1, hk1⟩ := zx_79 (l := l) (D := D) (tA := tA) (ex := ex) (sc := sc) hW (yv_rg _) (yv_rg _)
  subst hx1
  refine yl_call C0 hE (N := xm79) rfl rfl m1 (Nat.le_of_ble_eq_true rfl) (Nat.le_of_ble_eq_true rfl) (Nat.le_of_ble_eq_true rfl) (Nat.le_of_ble_eq_true rfl) (by show k + 0 ≤ 600000; omega) (by show n + 0 ≤ 7302250; omega) (zrec_0 hW) ?_
  show XLS p l e s m b below meth c D tA ex (.inl (1015, yLV i, [x1], w1, k + 0, n + 0))
  refine yl_at C0 hE (S' := (1016, yLV i, [], w1, k + 0, n + 0)) (q := _) rfl (sy_pop (ycat_0 hk1)) ?_
  refine yl_at C0 hE (S' := (1017, yLV i, [.inr (.inr (1, 57))], w1, k + 0, n + 0)) (q := _) rfl rfl ?_
  refine yl_arg C0 hE hsc hl (j := 1) (by decide) (by omega) hL rfl rfl rfl rfl rfl ?_
  refine yl_arg C0 hE hsc hl (j := 2) (by decide) (by omega) hL rfl rfl rfl rfl rfl ?_
  obtain ⟨ro2, w2, t2, m2, hW2, ht2, x2, hx2, hk2⟩ := zx_184 (l := l) (D := D) (tA := tA) (ex := ex) (sc := sc) hW1 (yv_rg _) (yv_rg _)
  subst hx2
  refine yl_call C0 hE (N := xm184) rfl rfl m2 (Nat.le_of_ble_eq_true rfl) (Nat.le_of_ble_eq_true rfl) (Nat.le_of_ble_eq_true rfl) (Nat.le_of_ble_eq_true rfl) (by show k + 0 + 0 ≤ 600000; omega) (by show n + 0 + 0 ≤ 7302250; omega) (zrec_57 hW1) ?_
  show XLS p l e s m b below meth c D tA ex (.inl (1030, yLV i, [x2], w2, k + 0 + 0, n + 0 + 0))
  refine yl_at C0 hE (S' := (1031, yLV i, [], w2, k + 0 + 0, n + 0 + 0)) (q := _) rfl (sy_pop (ycat_0 hk2)) ?_
  refine yl_at C0 hE (S' := (1683, yLV i, [], w2, k + 0 + 0, n + 0 + 0)) (q := _) rfl rfl ?_
  exact hK (t1 ++ t2) w2 _ _ (fun q hq => (List.mem_append.mp hq).elim (ht1 q) (ht2 q)) (by rw [← List.append_assoc]; exact ⟨_, hW2⟩) (by omega) (by omega)
theorem yop_24 (C0 : lw_At p s m meth c b L xs) (hE : XEnv D vwCl (tysX tA) ex (xSTX ++ [sc]) xSV xNW xNF (fun q : Nat => s.heap.size ≤ q) s) (hsc : ∀ j : Nat, j < L → sc[j]? = some (.inl (yv xs j, yv xs j))) (hl : sc.length = L) (hL : L ≤ 3072) {i : Nat} (hi : i + 5 < L) {ks : List Nat} {w : XW} {k n : Nat} (hW : zV ks w) (hk : k + 3 ≤ 600000) (hn : n + 19 ≤ 7302250) (hK : ∀ (tl : List Nat) (w' : XW) (k' n' : Nat), (∀ q ∈ tl, yfresh q = true) → zV (ks ++ tl) w' → k' ≤ k + 3 → n' ≤ n + 19 → XLS p l e s m b below meth c D tA ex (.inl (1683, yLV i, [], w', k', n'))) : XLS p l e s m b below meth c D tA ex (.inl (1034, yLV i, [], w, k, n)) := by
  obtain ⟨S, hW⟩ := hW
  refine yl_at C0 hE (S' := (1035, yLV i, [.inr (.inr (1, 0))], w, k, n)) (q := _) rfl rfl ?_
  refine yl_arg C0 hE hsc hl (j := 1) (by decide) (by omega) hL rfl rfl rfl rfl rfl ?_
  refine yl_arg C0 hE hsc hl (j := 2) (by decide) (by omega) hL rfl rfl rfl rfl rfl ?_
  refine yl_arg C0 hE hsc hl (j := 3) (by decide) (by omega) hL rfl rfl rfl rfl rfl ?_
  obtain ⟨ro1, w1, t1, m1, hW1, ht1, x1, hx1, hk1⟩ := zx_82 (l := l) (D := D) (tA := tA) (ex := ex) (sc := sc) hW (yv_rg _) (yv_rg _) (yv_rg _)
  subst hx1
  refine yl_call C0 hE (N := xm82) rfl rfl m1 (Nat.le_of_ble_eq_true rfl) (Nat.le_of_ble_eq_true rfl) (Nat.le_of_ble_eq_true rfl) (Nat.le_of_ble_eq_true rfl) (by show k + 3 ≤ 600000; omega) (by show n + 19 ≤ 7302250; omega) (zrec_0 hW) ?_
  show XLS p l e s m b below meth c D tA ex (.inl (1053, yLV i, [x1], w1, k + 3, n + 19))
  refine yl_at C0 hE (S' := (1054, yLV i, [], w1, k + 3, n + 19)) (q := _) rfl (sy_pop (ycat_0 hk1)) ?_
  refine yl_at C0 hE (S' := (1055, yLV i, [.inr (.inr (1, 57))], w1, k + 3, n + 19)) (q := _) rfl rfl ?_
  refine yl_arg C0 hE hsc hl (j := 1) (by decide) (by omega) hL rfl rfl rfl rfl rfl ?_
  refine yl_arg C0 hE hsc hl (j := 2) (by decide) (by omega) hL rfl rfl rfl rfl rfl ?_
  refine yl_arg C0 hE hsc hl (j := 3) (by decide) (by omega) hL rfl rfl rfl rfl rfl ?_
  obtain ⟨ro2, w2, t2, m2, hW2, ht2, x2, hx2, hk2⟩ := zx_213 (l := l) (D := D) (tA := tA) (ex := ex) (sc := sc) hW1 (yv_rg _) (yv_rg _) (yv_rg _)
  subst hx2
  refine yl_call C0 hE (N := xm213) rfl rfl m2 (Nat.le_of_ble_eq_true rfl) (Nat.le_of_ble_eq_true rfl) (Nat.le_of_ble_eq_true rfl) (Nat.le_of_ble_eq_true rfl) (by show k + 3 + 0 ≤ 600000; omega) (by show n + 19 + 0 ≤ 7302250; omega) (zrec_57 hW1) ?_
  show XLS p l e s m b below meth c D tA ex (.inl (1073, yLV i, [x2], w2, k + 3 + 0, n + 19 + 0))
  refine yl_at C0 hE (S' := (1074, yLV i, [], w2, k + 3 + 0, n + 19 + 0)) (q := _) rfl (sy_pop (ycat_0 hk2)) ?_
  refine yl_at C0 hE (S' := (1683, yLV i, [], w2, k + 3 + 0, n + 19 + 0)) (q := _) rfl rfl ?_
  exact hK (t1 ++ t2) w2 _ _ (fun q hq => (List.mem_append.mp hq).elim (ht1 q) (ht2 q)) (by rw [← List.append_assoc]; exact ⟨_, hW2⟩) (by omega) (by omega)
theorem yop_25 (C0 : lw_At p s m meth c b L xs) (hE : XEnv D vwCl (tysX tA) ex (xSTX ++ [sc]) xSV xNW xNF (fun q : Nat => s.heap.size ≤ q) s) (hsc : ∀ j : Nat, j < L → sc[j]? = some (.inl (yv xs j, yv xs j))) (hl : sc.length = L) (hL : L ≤ 3072) {i : Nat} (hi : i + 5 < L) {ks : List Nat} {w : XW} {k n : Nat} (hW : zV ks w) (hk : k + 3 ≤ 600000) (hn : n + 19 ≤ 7302250) (hK : ∀ (tl : List Nat) (w' : XW) (k' n' : Nat), (∀ q ∈ tl, yfresh q = true) → zV (ks ++ tl) w' → k' ≤ k + 3 → n' ≤ n + 19 → XLS p l e s m b below meth c D tA ex (.inl (1683, yLV i, [], w', k', n'))) : XLS p l e s m b below meth c D tA ex (.inl (1077, yLV i, [], w, k, n)) := by
  obtain ⟨S, hW⟩ := hW
  refine yl_at C0 hE (S' := (1078, yLV i, [.inr (.inr (1, 0))], w, k, n)) (q := _) rfl rfl ?_
  refine yl_arg C0 hE hsc hl (j := 1) (by decide) (by omega) hL rfl rfl rfl rfl rfl ?_
  refine yl_arg C0 hE hsc hl (j := 2) (by decide) (by omega) hL rfl rfl rfl rfl rfl ?_
  obtain ⟨ro1, w1, t1, m1, hW1, ht1, x1, hx1, hk1⟩ := zx_87 (l := l) (D := D) (tA := tA) (ex := ex) (sc := sc) hW (yv_rg _) (yv_rg _)
  subst hx1
  refine yl_call C0 hE (N := xm87) rfl rfl m1 (Nat.le_of_ble_eq_true rfl) (Nat.le_of_ble_eq_true rfl) (Nat.le_of_ble_eq_true rfl) (Nat.le_of_ble_eq_true rfl) (by show k + 0 ≤ 600000; omega) (by show n + 0 ≤ 7302250; omega) (zrec_0 hW) ?_
  show XLS p l e s m b below meth c D tA ex (.inl (1091, yLV i, [x1], w1, k + 0, n + 0))
  refine yl_at C0 hE (S' := (1092, yLV i, [], w1, k + 0, n + 0)) (q := _) rfl (sy_pop (ycat_0 hk1)) ?_
  refine yl_at C0 hE (S' := (1093, yLV i, [.inr (.inr (1, 57))], w1, k + 0, n + 0)) (q := _) rfl rfl ?_
  refine yl_arg C0 hE hsc hl (j := 1) (by decide) (by omega) hL rfl rfl rfl rfl rfl ?_
  refine yl_arg C0 hE hsc hl (j := 2) (by decide) (by omega) hL rfl rfl rfl rfl rfl ?_
  obtain ⟨ro2, w2, t2, m2, hW2, ht2, x2, hx2, hk2⟩ := zx_215 (l := l) (D := D) (tA := tA) (ex := ex) (sc := sc) hW1 (yv_rg _) (yv_rg _)
  subst hx2
  refine yl_call C0 hE (N := xm215) rfl rfl m2 (Nat.le_of_ble_eq_true rfl) (Nat.le_of_ble_eq_true rfl) (Nat.le_of_ble_eq_true rfl) (Nat.le_of_ble_eq_true rfl) (by show k + 0 + 0 ≤ 600000; omega) (by show n + 0 + 0 ≤ 7302250; omega) (zrec_57 hW1) ?_
  show XLS p l e s m b below meth c D tA ex (.inl (1106, yLV i, [x2], w2, k + 0 + 0, n + 0 + 0))
  refine yl_at C0 hE (S' := (1107, yLV i, [], w2, k + 0 + 0, n + 0 + 0)) (q := _) rfl (sy_pop (ycat_0 hk2)) ?_
  refine yl_at C0 hE (S' := (1683, yLV i, [], w2, k + 0 + 0, n + 0 + 0)) (q := _) rfl rfl ?_
  exact hK (t1 ++ t2) w2 _ _ (fun q hq => (List.mem_append.mp hq).elim (ht1 q) (ht2 q)) (by rw [← List.append_assoc]; exact ⟨_, hW2⟩) (by omega) (by omega)
theorem yop_26 (C0 : lw_At p s m meth c b L xs) (hE : XEnv D vwCl (tysX tA) ex (xSTX ++ [sc]) xSV xNW xNF (fun q : Nat => s.heap.size ≤ q) s) (hsc : ∀ j : Nat, j < L → sc[j]? = some (.inl (yv xs j, yv xs j))) (hl : sc.length = L) (hL : L ≤ 3072) {i : Nat} (hi : i + 5 < L) {ks : List Nat} {w : XW} {k n : Nat} (hW : zV ks w) (hk : k + 3 ≤ 600000) (hn : n + 19 ≤ 7302250) (hK : ∀ (tl : List Nat) (w' : XW) (k' n' : Nat), (∀ q ∈ tl, yfresh q = true) → zV (ks ++ tl) w' → k' ≤ k + 3 → n' ≤ n + 19 → XLS p l e s m b below meth c D tA ex (.inl (1683, yLV i, [], w', k', n'))) : XLS p l e s m b below meth c D tA ex (.inl (1110, yLV i, [], w, k, n)) := by
  obtain ⟨S, hW⟩ := hW
  refine yl_at C0 hE (S' := (1111, yLV i, [.inr (.inr (1, 0))], w, k, n)) (q := _) rfl rfl ?_
  refine yl_arg C0 hE hsc hl (j := 1) (by decide) (by omega) hL rfl rfl rfl rfl rfl ?_
  refine yl_arg C0 hE hsc hl (j := 2) (by decide) (by omega) hL rfl rfl rfl rfl rfl ?_
  obtain ⟨ro1, w1, t1, m1, hW1, ht1, x1, hx1, hk1⟩ := zx_90 (l := l) (D := D) (tA := tA) (ex := ex) (sc := sc) hW (yv_rg _) (yv_rg _)
  subst hx1
  refine yl_call C0 hE (N := xm90) rfl rfl m1 (Nat.le_of_ble_eq_true rfl) (Nat.le_of_ble_eq_true rfl) (Nat.le_of_ble_eq_true rfl) (Nat.le_of_ble_eq_true rfl) (by show k + 0 ≤ 600000; omega) (by show n + 0 ≤ 7302250; omega) (zrec_0 hW) ?_
  show XLS p l e s m b below meth c D tA ex (.inl (1124, yLV i, [x1], w1, k + 0, n + 0))
  refine yl_at C0 hE (S' := (1125, yLV i, [], w1, k + 0, n + 0)) (q := _) rfl (sy_pop (ycat_0 hk1)) ?_
  refine yl_at C0 hE (S' := (1126, yLV i, [.inr (.inr (1, 57))], w1, k + 0, n + 0)) (q := _) rfl rfl ?_
  refine yl_arg C0 hE hsc hl (j := 1) (by decide) (by omega) hL rfl rfl rfl rfl rfl ?_
  refine yl_arg C0 hE hsc hl (j := 2) (by decide) (by omega) hL rfl rfl rfl rfl rfl ?_
  obtain ⟨ro2, w2, t2, m2, hW2, ht2, x2, hx2, hk2⟩ := zx_218 (l := l) (D := D) (tA := tA) (ex := ex) (sc := sc) hW1 (yv_rg _) (yv_rg _)
  subst hx2
  refine yl_call C0 hE (N := xm218) rfl rfl m2 (Nat.le_of_ble_eq_true rfl) (Nat.le_of_ble_eq_true rfl) (Nat.le_of_ble_eq_true rfl) (Nat.le_of_ble_eq_true rfl) (by show k + 0 + 0 ≤ 600000; omega) (by show n + 0 + 0 ≤ 7302250; omega) (zrec_57 hW1) ?_
  show XLS p l e s m b below meth c D tA ex (.inl (1139, yLV i, [x2], w2, k + 0 + 0, n + 0 + 0))
  refine yl_at C0 hE (S' := (1140, yLV i, [], w2, k + 0 + 0, n + 0 + 0)) (q := _) rfl (sy_pop (ycat_0 hk2)) ?_
  refine yl_at C0 hE (S' := (1683, yLV i, [], w2, k + 0 + 0, n + 0 + 0)) (q := _) rfl rfl ?_
  exact hK (t1 ++ t2) w2 _ _ (fun q hq => (List.mem_append.mp hq).elim (ht1 q) (ht2 q)) (by rw [← List.append_assoc]; exact ⟨_, hW2⟩) (by omega) (by omega)
theorem yop_27 (C0 : lw_At p s m meth c b L xs) (hE : XEnv D vwCl (tysX tA) ex (xSTX ++ [sc]) xSV xNW xNF (fun q : Nat => s.heap.size ≤ q) s) (hsc : ∀ j : Nat, j < L → sc[j]? = some (.inl (yv xs j, yv xs j))) (hl : sc.length = L) (hL : L ≤ 3072) {i : Nat} (hi : i + 5 < L) {ks : List Nat} {w : XW} {k n : Nat} (hW : zV ks w) (hk : k + 3 ≤ 600000) (hn : n + 19 ≤ 7302250) (hK : ∀ (tl : List Nat) (w' : XW) (k' n' : Nat), (∀ q ∈ tl, yfresh q = true) → zV (ks ++ tl) w' → k' ≤ k + 3 → n' ≤ n + 19 → XLS p l e s m b below meth c D tA ex (.inl (1683, yLV i, [], w', k', n'))) : XLS p l e s m b below meth c D tA ex (.inl (1143, yLV i, [], w, k, n)) := by
  obtain ⟨S, hW⟩ := hW
  refine yl_at C0 hE (S' := (1144, yLV i, [.inr (.inr (1, 0))], w, k, n)) (q := _) rfl rfl ?_
  refine yl_arg C0 hE hsc hl (j := 1) (by decide) (by omega) hL rfl rfl rfl rfl rfl ?_
  refine yl_arg C0 hE hsc hl (j := 2) (by decide) (by omega) hL rfl rfl rfl rfl rfl ?_
  obtain ⟨ro1, w1, t1, m1, hW1, ht1, x1, hx1, hk1⟩ := zx_93 (l := l) (D := D) (tA := tA) (ex := ex) (sc := sc) hW (yv_rg _) (yv_rg _)
  subst hx1
  refine yl_call C0 hE (N := xm93) rfl rfl m1 (Nat.le_of_ble_eq_true rfl) (Nat.le_of_ble_eq_true rfl) (Nat.le_of_ble_eq_true rfl) (Nat.le_of_ble_eq_true rfl) (by show k + 0 ≤ 600000; omega) (by show n + 0 ≤ 7302250; omega) (zrec_0 hW) ?_
  show XLS p l e s m b below meth c D tA ex (.inl (1157, yLV i, [x1], w1, k + 0, n + 0))
  refine yl_at C0 hE (S' := (1158, yLV i, [], w1, k + 0, n + 0)) (q := _) rfl (sy_pop (ycat_0 hk1)) ?_
  refine yl_at C0 hE (S' := (1159, yLV i, [.inr (.inr (1, 57))], w1, k + 0, n + 0)) (q := _) rfl rfl ?_
  refine yl_arg C0 hE hsc hl (j := 1) (by decide) (by omega) hL rfl rfl rfl rfl rfl ?_
  refine yl_arg C0 hE hsc hl (j := 2) (by decide) (by omega) hL rfl rfl rfl rfl rfl ?_
  obtain ⟨ro2, w2, t2, m2, hW2, ht2, x2, hx2, hk2⟩ := zx_219 (l := l) (D := D) (tA := tA) (ex := ex) (sc := sc) hW1 (yv_rg _) (yv_rg _)
  subst hx2
  refine yl_call C0 hE (N := xm219) rfl rfl m2 (Nat.le_of_ble_eq_true rfl) (Nat.le_of_ble_eq_true rfl) (Nat.le_of_ble_eq_true rfl) (Nat.le_of_ble_eq_true rfl) (by show k + 0 + 0 ≤ 600000; omega) (by show n + 0 + 0 ≤ 7302250; omega) (zrec_57 hW1) ?_
  show XLS p l e s m b below meth c D tA ex (.inl (1172, yLV i, [x2], w2, k + 0 + 0, n + 0 + 0))
  refine yl_at C0 hE (S' := (1173, yLV i, [], w2, k + 0 + 0, n + 0 + 0)) (q := _) rfl (sy_pop (ycat_0 hk2)) ?_
  refine yl_at C0 hE (S' := (1683, yLV i, [], w2, k + 0 + 0, n + 0 + 0)) (q := _) rfl rfl ?_
  exact hK (t1 ++ t2) w2 _ _ (fun q hq => (List.mem_append.mp hq).elim (ht1 q) (ht2 q)) (by rw [← List.append_assoc]; exact ⟨_, hW2⟩) (by omega) (by omega)
theorem yop_28 (C0 : lw_At p s m meth c b L xs) (hE : XEnv D vwCl (tysX tA) ex (xSTX ++ [sc]) xSV xNW xNF (fun q : Nat => s.heap.size ≤ q) s) (hsc : ∀ j : Nat, j < L → sc[j]? = some (.inl (yv xs j, yv xs j))) (hl : sc.length = L) (hL : L ≤ 3072) {i : Nat} (hi : i + 5 < L) {ks : List Nat} {w : XW} {k n : Nat} (hW : zV ks w) (hk : k + 3 ≤ 600000) (hn : n + 19 ≤ 7302250) (hK : ∀ (tl : List Nat) (w' : XW) (k' n' : Nat), (∀ q ∈ tl, yfresh q = true) → zV (ks ++ tl) w' → k' ≤ k + 3 → n' ≤ n + 19 → XLS p l e s m b below meth c D tA ex (.inl (1683, yLV i, [], w', k', n'))) : XLS p l e s m b below meth c D tA ex (.inl (1176, yLV i, [], w, k, n)) := by
  obtain ⟨S, hW⟩ := hW
  refine yl_at C0 hE (S' := (1177, yLV i, [.inr (.inr (1, 0))], w, k, n)) (q := _) rfl rfl ?_
  refine yl_arg C0 hE hsc hl (j := 1) (by decide) (by omega) hL rfl rfl rfl rfl rfl ?_
  refine yl_arg C0 hE hsc hl (j := 2) (by decide) (by omega) hL rfl rfl rfl rfl rfl ?_
  refine yl_arg C0 hE hsc hl (j := 3) (by decide) (by omega) hL rfl rfl rfl rfl rfl ?_
  refine yl_arg C0 hE hsc hl (j := 4) (by decide) (by omega) hL rfl rfl rfl rfl rfl ?_
  obtain ⟨ro1, w1, t1, m1, hW1, ht1, x1, hx1, hk1⟩ := zx_94 (l := l) (D := D) (tA := tA) (ex := ex) (sc := sc) hW (yv_rg _) (yv_rg _) (yv_rg _) (yv_rg _)
  subst hx1
  refine yl_call C0 hE (N := xm94) rfl rfl m1 (Nat.le_of_ble_eq_true rfl) (Nat.le_of_ble_eq_true rfl) (Nat.le_of_ble_eq_true rfl) (Nat.le_of_ble_eq_true rfl) (by show k + 0 ≤ 600000; omega) (by show n + 0 ≤ 7302250; omega) (zrec_0 hW) ?_
  show XLS p l e s m b below meth c D tA ex (.inl (1200, yLV i, [x1], w1, k + 0, n + 0))
  refine yl_at C0 hE (S' := (1201, yLV i, [], w1, k + 0, n + 0)) (q := _) rfl (sy_pop (ycat_0 hk1)) ?_
  refine yl_at C0 hE (S' := (1202, yLV i, [.inr (.inr (1, 57))], w1, k + 0, n + 0)) (q := _) rfl rfl ?_
  refine yl_arg C0 hE hsc hl (j := 1) (by decide) (by omega) hL rfl rfl rfl rfl rfl ?_
  refine yl_arg C0 hE hsc hl (j := 2) (by decide) (by omega) hL rfl rfl rfl rfl rfl ?_
  refine yl_arg C0 hE hsc hl (j := 3) (by decide) (by omega) hL rfl rfl rfl rfl rfl ?_
  refine yl_arg C0 hE hsc hl (j := 4) (by decide) (by omega) hL rfl rfl rfl rfl rfl ?_
  obtain ⟨ro2, w2, t2, m2, hW2, ht2, x2, hx2, hk2⟩ := zx_220 (l := l) (D := D) (tA := tA) (ex := ex) (sc := sc) hW1 (yv_rg _) (yv_rg _) (yv_rg _) (yv_rg _)
  subst hx2
  refine yl_call C0 hE (N := xm220) rfl rfl m2 (Nat.le_of_ble_eq_true rfl) (Nat.le_of_ble_eq_true rfl) (Nat.le_of_ble_eq_true rfl) (Nat.le_of_ble_eq_true rfl) (by show k + 0 + 0 ≤ 600000; omega) (by show n + 0 + 0 ≤ 7302250; omega) (zrec_57 hW1) ?_
  show XLS p l e s m b below meth c D tA ex (.inl (1225, yLV i, [x2], w2, k + 0 + 0, n + 0 + 0))
  refine yl_at C0 hE (S' := (1226, yLV i, [], w2, k + 0 + 0, n + 0 + 0)) (q := _) rfl (sy_pop (ycat_0 hk2)) ?_
  refine yl_at C0 hE (S' := (1683, yLV i, [], w2, k + 0 + 0, n + 0 + 0)) (q := _) rfl rfl ?_
  exact hK (t1 ++ t2) w2 _ _ (fun q hq => (List.mem_append.mp hq).elim (ht1 q) (ht2 q)) (by rw [← List.append_assoc]; exact ⟨_, hW2⟩) (by omega) (by omega)
theorem yop_29 (C0 : lw_At p s m meth c b L xs) (hE : XEnv D vwCl (tysX tA) ex (xSTX ++ [sc]) xSV xNW xNF (fun q : Nat => s.heap.size ≤ q) s) (hsc : ∀ j : Nat, j < L → sc[j]? = some (.inl (yv xs j, yv xs j))) (hl : sc.length = L) (hL : L ≤ 3072) {i : Nat} (hi : i + 5 < L) {ks : List Nat} {w : XW} {k n : Nat} (hW : zV ks w) (hk : k + 3 ≤ 600000) (hn : n + 19 ≤ 7302250) (hK : ∀ (tl : List Nat) (w' : XW) (k' n' : Nat), (∀ q ∈ tl, yfresh q = true) → zV (ks ++ tl) w' → k' ≤ k + 3 → n' ≤ n + 19 → XLS p l e s m b below meth c D tA ex (.inl (1683, yLV i, [], w', k', n'))) : XLS p l e s m b below meth c D tA ex (.inl (1229, yLV i, [], w, k, n)) := by
  obtain ⟨S, hW⟩ := hW
  refine yl_at C0 hE (S' := (1230, yLV i, [.inr (.inr (1, 0))], w, k, n)) (q := _) rfl rfl ?_
  refine yl_arg C0 hE hsc hl (j := 1) (by decide) (by omega) hL rfl rfl rfl rfl rfl ?_
  refine yl_arg C0 hE hsc hl (j := 2) (by decide) (by omega) hL rfl rfl rfl rfl rfl ?_
  refine yl_arg C0 hE hsc hl (j := 3) (by decide) (by omega) hL rfl rfl rfl rfl rfl ?_
  obtain ⟨ro1, w1, t1, m1, hW1, ht1, x1, hx1, hk1⟩ := zx_100 (l := l) (D := D) (tA := tA) (ex := ex) (sc := sc) hW (yv_rg _) (yv_rg _) (yv_rg _)
  subst hx1
  refine yl_call C0 hE (N := xm100) rfl rfl m1 (Nat.le_of_ble_eq_true rfl) (Nat.le_of_ble_eq_true rfl) (Nat.le_of_ble_eq_true rfl) (Nat.le_of_ble_eq_true rfl) (by show k + 0 ≤ 600000; omega) (by show n + 0 ≤ 7302250; omega) (zrec_0 hW) ?_
  show XLS p l e s m b below meth c D tA ex (.inl (1248, yLV i, [x1], w1, k + 0, n + 0))
  refine yl_at C0 hE (S' := (1249, yLV i, [], w1, k + 0, n + 0)) (q := _) rfl (sy_pop (ycat_0 hk1)) ?_
  refine yl_at C0 hE (S' := (1250, yLV i, [.inr (.inr (1, 57))], w1, k + 0, n + 0)) (q := _) rfl rfl ?_
  refine yl_arg C0 hE hsc hl (j := 1) (by decide) (by omega) hL rfl rfl rfl rfl rfl ?_
  refine yl_arg C0 hE hsc hl (j := 2) (by decide) (by omega) hL rfl rfl rfl rfl rfl ?_
  refine yl_arg C0 hE hsc hl (j := 3) (by decide) (by omega) hL rfl rfl rfl rfl rfl ?_
  obtain ⟨ro2, w2, t2, m2, hW2, ht2, x2, hx2, hk2⟩ := zx_224 (l := l) (D := D) (tA := tA) (ex := ex) (sc := sc) hW1 (yv_rg _) (yv_rg _) (yv_rg _)
  subst hx2
  refine yl_call C0 hE (N := xm224) rfl rfl m2 (Nat.le_of_ble_eq_true rfl) (Nat.le_of_ble_eq_true rfl) (Nat.le_of_ble_eq_true rfl) (Nat.le_of_ble_eq_true rfl) (by show k + 0 + 0 ≤ 600000; omega) (by show n + 0 + 0 ≤ 7302250; omega) (zrec_57 hW1) ?_
  show XLS p l e s m b below meth c D tA ex (.inl (1268, yLV i, [x2], w2, k + 0 + 0, n + 0 + 0))
  refine yl_at C0 hE (S' := (1269, yLV i, [], w2, k + 0 + 0, n + 0 + 0)) (q := _) rfl (sy_pop (ycat_0 hk2)) ?_
  refine yl_at C0 hE (S' := (1683, yLV i, [], w2, k + 0 + 0, n + 0 + 0)) (q := _) rfl rfl ?_
  exact hK (t1 ++ t2) w2 _ _ (fun q hq => (List.mem_append.mp hq).elim (ht1 q) (ht2 q)) (by rw [← List.append_assoc]; exact ⟨_, hW2⟩) (by omega) (by omega)
theorem yop_30 (C0 : lw_At p s m meth c b L xs) (hE : XEnv D vwCl (tysX tA) ex (xSTX ++ [sc]) xSV xNW xNF (fun q : Nat => s.heap.size ≤ q) s) (hsc : ∀ j : Nat, j < L → sc[j]? = some (.inl (yv xs j, yv xs j))) (hl : sc.length = L) (hL : L ≤ 3072) {i : Nat} (hi : i + 5 < L) {ks : List Nat} {w : XW} {k n : Nat} (hW : zV ks w) (hk : k + 3 ≤ 600000) (hn : n + 19 ≤ 7302250) (hK : ∀ (tl : List Nat) (w' : XW) (k' n' : Nat), (∀ q ∈ tl, yfresh q = true) → zV (ks ++ tl) w' → k' ≤ k + 3 → n' ≤ n + 19 → XLS p l e s m b below meth c D tA ex (.inl (1683, yLV i, [], w', k', n'))) : XLS p l e s m b below meth c D tA ex (.inl (1272, yLV i, [], w, k, n)) := by
  obtain ⟨S, hW⟩ := hW
  refine yl_at C0 hE (S' := (1273, yLV i, [.inr (.inr (1, 0))], w, k, n)) (q := _) rfl rfl ?_
  refine yl_arg C0 hE hsc hl (j := 1) (by decide) (by omega) hL rfl rfl rfl rfl rfl ?_
  obtain ⟨ro1, w1, t1, m1, hW1, ht1, x1, hx1, hk1⟩ := zx_103 (l := l) (D := D) (tA := tA) (ex := ex) (sc := sc) hW (yv_rg _)
  subst hx1
  refine yl_call C0 hE (N := xm103) rfl rfl m1 (Nat.le_of_ble_eq_true rfl) (Nat.le_of_ble_eq_true rfl) (Nat.le_of_ble_eq_true rfl) (Nat.le_of_ble_eq_true rfl) (by show k + 0 ≤ 600000; omega) (by show n + 0 ≤ 7302250; omega) (zrec_0 hW) ?_
  show XLS p l e s m b below meth c D tA ex (.inl (1281, yLV i, [x1], w1, k + 0, n + 0))
  refine yl_at C0 hE (S' := (1282, yLV i, [], w1, k + 0, n + 0)) (q := _) rfl (sy_pop (ycat_0 hk1)) ?_
  refine yl_at C0 hE (S' := (1283, yLV i, [.inr (.inr (1, 57))], w1, k + 0, n + 0)) (q := _) rfl rfl ?_
  refine yl_arg C0 hE hsc hl (j := 1) (by decide) (by omega) hL rfl rfl rfl rfl rfl ?_
  obtain ⟨ro2, w2, t2, m2, hW2, ht2, x2, hx2, hk2⟩ := zx_225 (l := l) (D := D) (tA := tA) (ex := ex) (sc := sc) hW1 (yv_rg _)
  subst hx2
  refine yl_call C0 hE (N := xm225) rfl rfl m2 (Nat.le_of_ble_eq_true rfl) (Nat.le_of_ble_eq_true rfl) (Nat.le_of_ble_eq_true rfl) (Nat.le_of_ble_eq_true rfl) (by show k + 0 + 0 ≤ 600000; omega) (by show n + 0 + 0 ≤ 7302250; omega) (zrec_57 hW1) ?_
  show XLS p l e s m b below meth c D tA ex (.inl (1291, yLV i, [x2], w2, k + 0 + 0, n + 0 + 0))
  refine yl_at C0 hE (S' := (1292, yLV i, [], w2, k + 0 + 0, n + 0 + 0)) (q := _) rfl (sy_pop (ycat_0 hk2)) ?_
  refine yl_at C0 hE (S' := (1683, yLV i, [], w2, k + 0 + 0, n + 0 + 0)) (q := _) rfl rfl ?_
  exact hK (t1 ++ t2) w2 _ _ (fun q hq => (List.mem_append.mp hq).elim (ht1 q) (ht2 q)) (by rw [← List.append_assoc]; exact ⟨_, hW2⟩) (by omega) (by omega)
theorem yop_31 (C0 : lw_At p s m meth c b L xs) (hE : XEnv D vwCl (tysX tA) ex (xSTX ++ [sc]) xSV xNW xNF (fun q : Nat => s.heap.size ≤ q) s) (hsc : ∀ j : Nat, j < L → sc[j]? = some (.inl (yv xs j, yv xs j))) (hl : sc.length = L) (hL : L ≤ 3072) {i : Nat} (hi : i + 5 < L) {ks : List Nat} {w : XW} {k n : Nat} (hW : zV ks w) (hk : k + 3 ≤ 600000) (hn : n + 19 ≤ 7302250) (hK : ∀ (tl : List Nat) (w' : XW) (k' n' : Nat), (∀ q ∈ tl, yfresh q = true) → zV (ks ++ tl) w' → k' ≤ k + 3 → n' ≤ n + 19 → XLS p l e s m b below meth c D tA ex (.inl (1683, yLV i, [], w', k', n'))) : XLS p l e s m b below meth c D tA ex (.inl (1295, yLV i, [], w, k, n)) := by
  obtain ⟨S, hW⟩ := hW
  refine yl_at C0 hE (S' := (1296, yLV i, [.inr (.inr (1, 0))], w, k, n)) (q := _) rfl rfl ?_
  refine yl_arg C0 hE hsc hl (j := 1) (by decide) (by omega) hL rfl rfl rfl rfl rfl ?_
  refine yl_arg C0 hE hsc hl (j := 2) (by decide) (by omega) hL rfl rfl rfl rfl rfl ?_
  obtain ⟨ro1, w1, t1, m1, hW1, ht1, x1, hx1, hk1⟩ := zx_108 (l := l) (D := D) (tA := tA) (ex := ex) (sc := sc) hW (yv_rg _) (yv_rg _)
  subst hx1
  refine yl_call C0 hE (N := xm108) rfl rfl m1 (Nat.le_of_ble_eq_true rfl) (Nat.le_of_ble_eq_true rfl) (Nat.le_of_ble_eq_true rfl) (Nat.le_of_ble_eq_true rfl) (by show k + 0 ≤ 600000; omega) (by show n + 0 ≤ 7302250; omega) (zrec_0 hW) ?_
  show XLS p l e s m b below meth c D tA ex (.inl (1309, yLV i, [x1], w1, k + 0, n + 0))
  refine yl_at C0 hE (S' := (1310, yLV i, [], w1, k + 0, n + 0)) (q := _) rfl (sy_pop (ycat_0 hk1)) ?_
  refine yl_at C0 hE (S' := (1311, yLV i, [.inr (.inr (1, 57))], w1, k + 0, n + 0)) (q := _) rfl rfl ?_
  refine yl_arg C0 hE hsc hl (j := 1) (by decide) (by omega) hL rfl rfl rfl rfl rfl ?_
  refine yl_arg C0 hE hsc hl (j := 2) (by decide) (by omega) hL rfl rfl rfl rfl rfl ?_
  obtain ⟨ro2, w2, t2, m2, hW2, ht2, x2, hx2, hk2⟩ := zx_228 (l := l) (D := D) (tA := tA) (ex := ex) (sc := sc) hW1 (yv_rg _) (yv_rg _)
  subst hx2
  refine yl_call C0 hE (N := xm228) rfl rfl m2 (Nat.le_of_ble_eq_true rfl) (Nat.le_of_ble_eq_true rfl) (Nat.le_of_ble_eq_true rfl) (Nat.le_of_ble_eq_true rfl) (by show k + 0 + 0 ≤ 600000; omega) (by show n + 0 + 0 ≤ 7302250; omega) (zrec_57 hW1) ?_
  show XLS p l e s m b below meth c D tA ex (.inl (1324, yLV i, [x2], w2, k + 0 + 0, n + 0 + 0))
  refine yl_at C0 hE (S' := (1325, yLV i, [], w2, k + 0 + 0, n + 0 + 0)) (q := _) rfl (sy_pop (ycat_0 hk2)) ?_
  refine yl_at C0 hE (S' := (1683, yLV i, [], w2, k + 0 + 0, n + 0 + 0)) (q := _) rfl rfl ?_
  exact hK (t1 ++ t2) w2 _ _ (fun q hq => (List.mem_append.mp hq).elim (ht1 q) (ht2 q)) (by rw [← List.append_assoc]; exact ⟨_, hW2⟩) (by omega) (by omega)
theorem yop_32 (C0 : lw_At p s m meth c b L xs) (hE : XEnv D vwCl (tysX tA) ex (xSTX ++ [sc]) xSV xNW xNF (fun q : Nat => s.heap.size ≤ q) s) (hsc : ∀ j : Nat, j < L → sc[j]? = some (.inl (yv xs j, yv xs j))) (hl : sc.length = L) (hL : L ≤ 3072) {i : Nat} (hi : i + 5 < L) {ks : List Nat} {w : XW} {k n : Nat} (hW : zV ks w) (hk : k + 3 ≤ 600000) (hn : n + 19 ≤ 7302250) (hK : ∀ (tl : List Nat) (w' : XW) (k' n' : Nat), (∀ q ∈ tl, yfresh q = true) → zV (ks ++ tl) w' → k' ≤ k + 3 → n' ≤ n + 19 → XLS p l e s m b below meth c D tA ex (.inl (1683, yLV i, [], w', k', n'))) : XLS p l e s m b below meth c D tA ex (.inl (1328, yLV i, [], w, k, n)) := by
  obtain ⟨S, hW⟩ := hW
  refine yl_at C0 hE (S' := (1329, yLV i, [.inr (.inr (1, 0))], w, k, n)) (q := _) rfl rfl ?_
  refine yl_arg C0 hE hsc hl (j := 1) (by decide) (by omega) hL rfl rfl rfl rfl rfl ?_
  refine yl_arg C0 hE hsc hl (j := 2) (by decide) (by omega) hL rfl rfl rfl rfl rfl ?_
  obtain ⟨ro1, w1, t1, m1, hW1, ht1, x1, hx1, hk1⟩ := zx_109 (l := l) (D := D) (tA := tA) (ex := ex) (sc := sc) hW (yv_rg _) (yv_rg _)
  subst hx1
  refine yl_call C0 hE (N := xm109) rfl rfl m1 (Nat.le_of_ble_eq_true rfl) (Nat.le_of_ble_eq_true rfl) (Nat.le_of_ble_eq_true rfl) (Nat.le_of_ble_eq_true rfl) (by show k + 0 ≤ 600000; omega) (by show n + 0 ≤ 7302250; omega) (zrec_0 hW) ?_
  show XLS p l e s m b below meth c D tA ex (.inl (1342, yLV i, [x1], w1, k + 0, n + 0))
  refine yl_at C0 hE (S' := (1343, yLV i, [], w1, k + 0, n + 0)) (q := _) rfl (sy_pop (ycat_0 hk1)) ?_
  refine yl_at C0 hE (S' := (1344, yLV i, [.inr (.inr (1, 57))], w1, k + 0, n + 0)) (q := _) rfl rfl ?_
  refine yl_arg C0 hE hsc hl (j := 1) (by decide) (by omega) hL rfl rfl rfl rfl rfl ?_
  refine yl_arg C0 hE hsc hl (j := 2) (by decide) (by omega) hL rfl rfl rfl rfl rfl ?_
  obtain ⟨ro2, w2, t2, m2, hW2, ht2, x2, hx2, hk2⟩ := zx_229 (l := l) (D := D) (tA := tA) (ex := ex) (sc := sc) hW1 (yv_rg _) (yv_rg _)
  subst hx2
  refine yl_call C0 hE (N := xm229) rfl rfl m2 (Nat.le_of_ble_eq_true rfl) (Nat.le_of_ble_eq_true rfl) (Nat.le_of_ble_eq_true rfl) (Nat.le_of_ble_eq_true rfl) (by show k + 0 + 0 ≤ 600000; omega) (by show n + 0 + 0 ≤ 7302250; omega) (zrec_57 hW1) ?_
  show XLS p l e s m b below meth c D tA ex (.inl (1357, yLV i, [x2], w2, k + 0 + 0, n + 0 + 0))
  refine yl_at C0 hE (S' := (1358, yLV i, [], w2, k + 0 + 0, n + 0 + 0)) (q := _) rfl (sy_pop (ycat_0 hk2)) ?_
  refine yl_at C0 hE (S' := (1683, yLV i, [], w2, k + 0 + 0, n + 0 + 0)) (q := _) rfl rfl ?_
  exact hK (t1 ++ t2) w2 _ _ (fun q hq => (List.mem_append.mp hq).elim (ht1 q) (ht2 q)) (by rw [← List.append_assoc]; exact ⟨_, hW2⟩) (by omega) (by omega)
theorem yop_33 (C0 : lw_At p s m meth c b L xs) (hE : XEnv D vwCl (tysX tA) ex (xSTX ++ [sc]) xSV xNW xNF (fun q : Nat => s.heap.size ≤ q) s) (hsc : ∀ j : Nat, j < L → sc[j]? = some (.inl (yv xs j, yv xs j))) (hl : sc.length = L) (hL : L ≤ 3072) {i : Nat} (hi : i + 5 < L) {ks : List Nat} {w : XW} {k n : Nat} (hW : zV ks w) (hk : k + 3 ≤ 600000) (hn : n + 19 ≤ 7302250) (hK : ∀ (tl : List Nat) (w' : XW) (k' n' : Nat), (∀ q ∈ tl, yfresh q = true) → zV (ks ++ tl) w' → k' ≤ k + 3 → n' ≤ n + 19 → XLS p l e s m b below meth c D tA ex (.inl (1683, yLV i, [], w', k', n'))) : XLS p l e s m b below meth c D tA ex (.inl (1361, yLV i, [], w, k, n)) := by
  obtain ⟨S, hW⟩ := hW
  refine yl_at C0 hE (S' := (1362, yLV i, [.inr (.inr (1, 0))], w, k, n)) (q := _) rfl rfl ?_
  refine yl_arg C0 hE hsc hl (j := 1) (by decide) (by omega) hL rfl rfl rfl rfl rfl ?_
  obtain ⟨ro1, w1, t1, m1, hW1, ht1, x1, hx1, hk1⟩ := zx_110 (l := l) (D := D) (tA := tA) (ex := ex) (sc := sc) hW (yv_rg _)
  subst hx1
  refine yl_call C0 hE (N := xm110) rfl rfl m1 (Nat.le_of_ble_eq_true rfl) (Nat.le_of_ble_eq_true rfl) (Nat.le_of_ble_eq_true rfl) (Nat.le_of_ble_eq_true rfl) (by show k + 0 ≤ 600000; omega) (by show n + 0 ≤ 7302250; omega) (zrec_0 hW) ?_
  show XLS p l e s m b below meth c D tA ex (.inl (1370, yLV i, [x1], w1, k + 0, n + 0))
  refine yl_at C0 hE (S' := (1371, yLV i, [], w1, k + 0, n + 0)) (q := _) rfl (sy_pop (ycat_0 hk1)) ?_
  refine yl_at C0 hE (S' := (1372, yLV i, [.inr (.inr (1, 57))], w1, k + 0, n + 0)) (q := _) rfl rfl ?_
  refine yl_arg C0 hE hsc hl (j := 1) (by decide) (by omega) hL rfl rfl rfl rfl rfl ?_
  obtain ⟨ro2, w2, t2, m2, hW2, ht2, x2, hx2, hk2⟩ := zx_230 (l := l) (D := D) (tA := tA) (ex := ex) (sc := sc) hW1 (yv_rg _)
  subst hx2
  refine yl_call C0 hE (N := xm230) rfl rfl m2 (Nat.le_of_ble_eq_true rfl) (Nat.le_of_ble_eq_true rfl) (Nat.le_of_ble_eq_true rfl) (Nat.le_of_ble_eq_true rfl) (by show k + 0 + 0 ≤ 600000; omega) (by show n + 0 + 0 ≤ 7302250; omega) (zrec_57 hW1) ?_
  show XLS p l e s m b below meth c D tA ex (.inl (1380, yLV i, [x2], w2, k + 0 + 0, n + 0 + 0))
  refine yl_at C0 hE (S' := (1381, yLV i, [], w2, k + 0 + 0, n + 0 + 0)) (q := _) rfl (sy_pop (ycat_0 hk2)) ?_
  refine yl_at C0 hE (S' := (1683, yLV i, [], w2, k + 0 + 0, n + 0 + 0)) (q := _) rfl rfl ?_
  exact hK (t1 ++ t2) w2 _ _ (fun q hq => (List.mem_append.mp hq).elim (ht1 q) (ht2 q)) (by rw [← List.append_assoc]; exact ⟨_, hW2⟩) (by omega) (by omega)
theorem yop_34 (C0 : lw_At p s m meth c b L xs) (hE : XEnv D vwCl (tysX tA) ex (xSTX ++ [sc]) xSV xNW xNF (fun q : Nat => s.heap.size ≤ q) s) (hsc : ∀ j : Nat, j < L → sc[j]? = some (.inl (yv xs j, yv xs j))) (hl : sc.length = L) (hL : L ≤ 3072) {i : Nat} (hi : i + 5 < L) {ks : List Nat} {w : XW} {k n : Nat} (hW : zV ks w) (hk : k + 3 ≤ 600000) (hn : n + 19 ≤ 7302250) (hK : ∀ (tl : List Nat) (w' : XW) (k' n' : Nat), (∀ q ∈ tl, yfresh q = true) → zV (ks ++ tl) w' → k' ≤ k + 3 → n' ≤ n + 19 → XLS p l e s m b below meth c D tA ex (.inl (1683, yLV i, [], w', k', n'))) : XLS p l e s m b below meth c D tA ex (.inl (1384, yLV i, [], w, k, n)) := by
  obtain ⟨S, hW⟩ := hW
  refine yl_at C0 hE (S' := (1385, yLV i, [.inr (.inr (1, 0))], w, k, n)) (q := _) rfl rfl ?_
  refine yl_arg C0 hE hsc hl (j := 1) (by decide) (by omega) hL rfl rfl rfl rfl rfl ?_
  refine yl_arg C0 hE hsc hl (j := 2) (by decide) (by omega) hL rfl rfl rfl rfl rfl ?_
  refine yl_arg C0 hE hsc hl (j := 3) (by decide) (by omega) hL rfl rfl rfl rfl rfl ?_
  obtain ⟨ro1, w1, t1, m1, hW1, ht1, x1, hx1, hk1⟩ := zx_112 (l := l) (D := D) (tA := tA) (ex := ex) (sc := sc) hW (yv_rg _) (yv_rg _) (yv_rg _)
  subst hx1
  refine yl_call C0 hE (N := xm112) rfl rfl m1 (Nat.le_of_ble_eq_true rfl) (Nat.le_of_ble_eq_true rfl) (Nat.le_of_ble_eq_true rfl) (Nat.le_of_ble_eq_true rfl) (by show k + 0 ≤ 600000; omega) (by show n + 0 ≤ 7302250; omega) (zrec_0 hW) ?_
  show XLS p l e s m b below meth c D tA ex (.inl (1403, yLV i, [x1], w1, k + 0, n + 0))
  refine yl_at C0 hE (S' := (1404, yLV i, [], w1, k + 0, n + 0)) (q := _) rfl (sy_pop (ycat_0 hk1)) ?_
  refine yl_at C0 hE (S' := (1405, yLV i, [.inr (.inr (1, 57))], w1, k + 0, n + 0)) (q := _) rfl rfl ?_
  refine yl_arg C0 hE hsc hl (j := 1) (by decide) (by omega) hL rfl rfl rfl rfl rfl ?_
  refine yl_arg C0 hE hsc hl (j := 2) (by decide) (by omega) hL rfl rfl rfl rfl rfl ?_
  refine yl_arg C0 hE hsc hl (j := 3) (by decide) (by omega) hL rfl rfl rfl rfl rfl ?_
  obtain ⟨ro2, w2, t2, m2, hW2, ht2, x2, hx2, hk2⟩ := zx_231 (l := l) (D := D) (tA := tA) (ex := ex) (sc := sc) hW1 (yv_rg _) (yv_rg _) (yv_rg _)
  subst hx2
  refine yl_call C0 hE (N := xm231) rfl rfl m2 (Nat.le_of_ble_eq_true rfl) (Nat.le_of_ble_eq_true rfl) (Nat.le_of_ble_eq_true rfl) (Nat.le_of_ble_eq_true rfl) (by show k + 0 + 0 ≤ 600000; omega) (by show n + 0 + 0 ≤ 7302250; omega) (zrec_57 hW1) ?_
  show XLS p l e s m b below meth c D tA ex (.inl (1423, yLV i, [x2], w2, k + 0 + 0, n + 0 + 0))
  refine yl_at C0 hE (S' := (1424, yLV i, [], w2, k + 0 + 0, n + 0 + 0)) (q := _) rfl (sy_pop (ycat_0 hk2)) ?_
  refine yl_at C0 hE (S' := (1683, yLV i, [], w2, k + 0 + 0, n + 0 + 0)) (q := _) rfl rfl ?_
  exact hK (t1 ++ t2) w2 _ _ (fun q hq => (List.mem_append.mp hq).elim (ht1 q) (ht2 q)) (by rw [← List.append_assoc]; exact ⟨_, hW2⟩) (by omega) (by omega)
theorem yop_35 (C0 : lw_At p s m meth c b L xs) (hE : XEnv D vwCl (tysX tA) ex (xSTX ++ [sc]) xSV xNW xNF (fun q : Nat => s.heap.size ≤ q) s) (hsc : ∀ j : Nat, j < L → sc[j]? = some (.inl (yv xs j, yv xs j))) (hl : sc.length = L) (hL : L ≤ 3072) {i : Nat} (hi : i + 5 < L) {ks : List Nat} {w : XW} {k n : Nat} (hW : zV ks w) (hk : k + 3 ≤ 600000) (hn : n + 19 ≤ 7302250) (hK : ∀ (tl : List Nat) (w' : XW) (k' n' : Nat), (∀ q ∈ tl, yfresh q = true) → zV (ks ++ tl) w' → k' ≤ k + 3 → n' ≤ n + 19 → XLS p l e s m b below meth c D tA ex (.inl (1683, yLV i, [], w', k', n'))) : XLS p l e s m b below meth c D tA ex (.inl (1427, yLV i, [], w, k, n)) := by
  obtain ⟨S, hW⟩ := hW
  refine yl_at C0 hE (S' := (1428, yLV i, [.inr (.inr (1, 0))], w, k, n)) (q := _) rfl rfl ?_
  refine yl_arg C0 hE hsc hl (j := 1) (by decide) (by omega) hL rfl rfl rfl rfl rfl ?_
  obtain ⟨ro1, w1, t1, m1, hW1, ht1, x1, hx1, hk1⟩ := zx_115 (l := l) (D := D) (tA := tA) (ex := ex) (sc := sc) hW (yv_rg _)
  subst hx1
  refine yl_call C0 hE (N := xm115) rfl rfl m1 (Nat.le_of_ble_eq_true rfl) (Nat.le_of_ble_eq_true rfl) (Nat.le_of_ble_eq_true rfl) (Nat.le_of_ble_eq_true rfl) (by show k + 0 ≤ 600000; omega) (by show n + 0 ≤ 7302250; omega) (zrec_0 hW) ?_
  show XLS p l e s m b below meth c D tA ex (.inl (1436, yLV i, [x1], w1, k + 0, n + 0))
  refine yl_at C0 hE (S' := (1437, yLV i, [], w1, k + 0, n + 0)) (q := _) rfl (sy_pop (ycat_0 hk1)) ?_
  refine yl_at C0 hE (S' := (1438, yLV i, [.inr (.inr (1, 57))], w1, k + 0, n + 0)) (q := _) rfl rfl ?_
  refine yl_arg C0 hE hsc hl (j := 1) (by decide) (by omega) hL rfl rfl rfl rfl rfl ?_
  obtain ⟨ro2, w2, t2, m2, hW2, ht2, x2, hx2, hk2⟩ := zx_234 (l := l) (D := D) (tA := tA) (ex := ex) (sc := sc) hW1 (yv_rg _)
  subst hx2
  refine yl_call C0 hE (N := xm234) rfl rfl m2 (Nat.le_of_ble_eq_true rfl) (Nat.le_of_ble_eq_true rfl) (Nat.le_of_ble_eq_true rfl) (Nat.le_of_ble_eq_true rfl) (by show k + 0 + 0 ≤ 600000; omega) (by show n + 0 + 0 ≤ 7302250; omega) (zrec_57 hW1) ?_
  show XLS p l e s m b below meth c D tA ex (.inl (1446, yLV i, [x2], w2, k + 0 + 0, n + 0 + 0))
  refine yl_at C0 hE (S' := (1447, yLV i, [], w2, k + 0 + 0, n + 0 + 0)) (q := _) rfl (sy_pop (ycat_0 hk2)) ?_
  refine yl_at C0 hE (S' := (1683, yLV i, [], w2, k + 0 + 0, n + 0 + 0)) (q := _) rfl rfl ?_
  exact hK (t1 ++ t2) w2 _ _ (fun q hq => (List.mem_append.mp hq).elim (ht1 q) (ht2 q)) (by rw [← List.append_assoc]; exact ⟨_, hW2⟩) (by omega) (by omega)
theorem yop_36 (C0 : lw_At p s m meth c b L xs) (hE : XEnv D vwCl (tysX tA) ex (xSTX ++ [sc]) xSV xNW xNF (fun q : Nat => s.heap.size ≤ q) s) (hsc : ∀ j : Nat, j < L → sc[j]? = some (.inl (yv xs j, yv xs j))) (hl : sc.length = L) (hL : L ≤ 3072) {i : Nat} (hi : i + 5 < L) {ks : List Nat} {w : XW} {k n : Nat} (hW : zV ks w) (hk : k + 3 ≤ 600000) (hn : n + 19 ≤ 7302250) (hK : ∀ (tl : List Nat) (w' : XW) (k' n' : Nat), (∀ q ∈ tl, yfresh q = true) → zV (ks ++ tl) w' → k' ≤ k + 3 → n' ≤ n + 19 → XLS p l e s m b below meth c D tA ex (.inl (1683, yLV i, [], w', k', n'))) : XLS p l e s m b below meth c D tA ex (.inl (1450, yLV i, [], w, k, n)) := by
  obtain ⟨S, hW⟩ := hW
  refine yl_at C0 hE (S' := (1451, yLV i, [.inr (.inr (1, 0))], w, k, n)) (q := _) rfl rfl ?_
  refine yl_arg C0 hE hsc hl (j := 1) (by decide) (by omega) hL rfl rfl rfl rfl rfl ?_
  refine yl_arg C0 hE hsc hl (j := 2) (by decide) (by omega) hL rfl rfl rfl rfl rfl ?_
  obtain ⟨ro1, w1, t1, m1, hW1, ht1, x1, hx1, hk1⟩ := zx_116 (l := l) (D := D) (tA := tA) (ex := ex) (sc := sc) hW (yv_rg _) (yv_rg _)
  subst hx1
  refine yl_call C0 hE (N := xm116) rfl rfl m1 (Nat.le_of_ble_eq_true rfl) (Nat.le_of_ble_eq_true rfl) (Nat.le_of_ble_eq_true rfl) (Nat.le_of_ble_eq_true rfl) (by show k + 0 ≤ 600000; omega) (by show n + 0 ≤ 7302250; omega) (zrec_0 hW) ?_
  show XLS p l e s m b below meth c D tA ex (.inl (1464, yLV i, [x1], w1, k + 0, n + 0))
  refine yl_at C0 hE (S' := (1465, yLV i, [], w1, k + 0, n + 0)) (q := _) rfl (sy_pop (ycat_0 hk1)) ?_
  refine yl_at C0 hE (S' := (1466, yLV i, [.inr (.inr (1, 57))], w1, k + 0, n + 0)) (q := _) rfl rfl ?_
  refine yl_arg C0 hE hsc hl (j := 1) (by decide) (by omega) hL rfl rfl rfl rfl rfl ?_
  refine yl_arg C0 hE hsc hl (j := 2) (by decide) (by omega) hL rfl rfl rfl rfl rfl ?_
  obtain ⟨ro2, w2, t2, m2, hW2, ht2, x2, hx2, hk2⟩ := zx_235 (l := l) (D := D) (tA := tA) (ex := ex) (sc := sc) hW1 (yv_rg _) (yv_rg _)
  subst hx2
  refine yl_call C0 hE (N := xm235) rfl rfl m2 (Nat.le_of_ble_eq_true rfl) (Nat.le_of_ble_eq_true rfl) (Nat.le_of_ble_eq_true rfl) (Nat.le_of_ble_eq_true rfl) (by show k + 0 + 0 ≤ 600000; omega) (by show n + 0 + 0 ≤ 7302250; omega) (zrec_57 hW1) ?_
  show XLS p l e s m b below meth c D tA ex (.inl (1479, yLV i, [x2], w2, k + 0 + 0, n + 0 + 0))
  refine yl_at C0 hE (S' := (1480, yLV i, [], w2, k + 0 + 0, n + 0 + 0)) (q := _) rfl (sy_pop (ycat_0 hk2)) ?_
  refine yl_at C0 hE (S' := (1683, yLV i, [], w2, k + 0 + 0, n + 0 + 0)) (q := _) rfl rfl ?_
  exact hK (t1 ++ t2) w2 _ _ (fun q hq => (List.mem_append.mp hq).elim (ht1 q) (ht2 q)) (by rw [← List.append_assoc]; exact ⟨_, hW2⟩) (by omega) (by omega)
theorem yop_37 (C0 : lw_At p s m meth c b L xs) (hE : XEnv D vwCl (tysX tA) ex (xSTX ++ [sc]) xSV xNW xNF (fun q : Nat => s.heap.size ≤ q) s) (hsc : ∀ j : Nat, j < L → sc[j]? = some (.inl (yv xs j, yv xs j))) (hl : sc.length = L) (hL : L ≤ 3072) {i : Nat} (hi : i + 5 < L) {ks : List Nat} {w : XW} {k n : Nat} (hW : zV ks w) (hk : k + 3 ≤ 600000) (hn : n + 19 ≤ 7302250) (hK : ∀ (tl : List Nat) (w' : XW) (k' n' : Nat), (∀ q ∈ tl, yfresh q = true) → zV (ks ++ tl) w' → k' ≤ k + 3 → n' ≤ n + 19 → XLS p l e s m b below meth c D tA ex (.inl (1683, yLV i, [], w', k', n'))) : XLS p l e s m b below meth c D tA ex (.inl (1483, yLV i, [], w, k, n)) := by
  obtain ⟨S, hW⟩ := hW
  refine yl_at C0 hE (S' := (1484, yLV i, [.inr (.inr (1, 0))], w, k, n)) (q := _) rfl rfl ?_
  refine yl_arg C0 hE hsc hl (j := 1) (by decide) (by omega) hL rfl rfl rfl rfl rfl ?_
  refine yl_arg C0 hE hsc hl (j := 2) (by decide) (by omega) hL rfl rfl rfl rfl rfl ?_
  obtain ⟨ro1, w1, t1, m1, hW1, ht1, x1, hx1, hk1⟩ := zx_128 (l := l) (D := D) (tA := tA) (ex := ex) (sc := sc) hW (yv_rg _) (yv_rg _)
  subst hx1
  refine yl_call C0 hE (N := xm128) rfl rfl m1 (Nat.le_of_ble_eq_true rfl) (Nat.le_of_ble_eq_true rfl) (Nat.le_of_ble_eq_true rfl) (Nat.le_of_ble_eq_true rfl) (by show k + 0 ≤ 600000; omega) (by show n + 0 ≤ 7302250; omega) (zrec_0 hW) ?_
  show XLS p l e s m b below meth c D tA ex (.inl (1497, yLV i, [x1], w1, k + 0, n + 0))
  refine yl_at C0 hE (S' := (1498, yLV i, [], w1, k + 0, n + 0)) (q := _) rfl (sy_pop (ycat_0 hk1)) ?_
  refine yl_at C0 hE (S' := (1499, yLV i, [.inr (.inr (1, 57))], w1, k + 0, n + 0)) (q := _) rfl rfl ?_
  refine yl_arg C0 hE hsc hl (j := 1) (by decide) (by omega) hL rfl rfl rfl rfl rfl ?_
  refine yl_arg C0 hE hsc hl (j := 2) (by decide) (by omega) hL rfl rfl rfl rfl rfl ?_
  obtain ⟨ro2, w2, t2, m2, hW2, ht2, x2, hx2, hk2⟩ := zx_238 (l := l) (D := D) (tA := tA) (ex := ex) (sc := sc) hW1 (yv_rg _) (yv_rg _)
  subst hx2
  refine yl_call C0 hE (N := xm238) rfl rfl m2 (Nat.le_of_ble_eq_true rfl) (Nat.le_of_ble_eq_true rfl) (Nat.le_of_ble_eq_true rfl) (Nat.le_of_ble_eq_true rfl) (by show k + 0 + 0 ≤ 600000; omega) (by show n + 0 + 0 ≤ 7302250; omega) (zrec_57 hW1) ?_
  show XLS p l e s m b below meth c D tA ex (.inl (1512, yLV i, [x2], w2, k + 0 + 0, n + 0 + 0))
  refine yl_at C0 hE (S' := (1513, yLV i, [], w2, k + 0 + 0, n + 0 + 0)) (q := _) rfl (sy_pop (ycat_0 hk2)) ?_
  refine yl_at C0 hE (S' := (1683, yLV i, [], w2, k + 0 + 0, n + 0 + 0)) (q := _) rfl rfl ?_
  exact hK (t1 ++ t2) w2 _ _ (fun q hq => (List.mem_append.mp hq).elim (ht1 q) (ht2 q)) (by rw [← List.append_assoc]; exact ⟨_, hW2⟩) (by omega) (by omega)
theorem yop_38 (C0 : lw_At p s m meth c b L xs) (hE : XEnv D vwCl (tysX tA) ex (xSTX ++ [sc]) xSV xNW xNF (fun q : Nat => s.heap.size ≤ q) s) (hsc : ∀ j : Nat, j < L → sc[j]? = some (.inl (yv xs j, yv xs j))) (hl : sc.length = L) (hL : L ≤ 3072) {i : Nat} (hi : i + 5 < L) {ks : List Nat} {w : XW} {k n : Nat} (hW : zV ks w) (hk : k + 3 ≤ 600000) (hn : n + 19 ≤ 7302250) (hK : ∀ (tl : List Nat) (w' : XW) (k' n' : Nat), (∀ q ∈ tl, yfresh q = true) → zV (ks ++ tl) w' → k' ≤ k + 3 → n' ≤ n + 19 → XLS p l e s m b below meth c D tA ex (.inl (1683, yLV i, [], w', k', n'))) : XLS p l e s m b below meth c D tA ex (.inl (1516, yLV i, [], w, k, n)) := by
  obtain ⟨S, hW⟩ := hW
  refine yl_at C0 hE (S' := (1517, yLV i, [.inr (.inr (1, 0))], w, k, n)) (q := _) rfl rfl ?_
  refine yl_arg C0 hE hsc hl (j := 1) (by decide) (by omega) hL rfl rfl rfl rfl rfl ?_
  refine yl_arg C0 hE hsc hl (j := 2) (by decide) (by omega) hL rfl rfl rfl rfl rfl ?_
  refine yl_arg C0 hE hsc hl (j := 3) (by decide) (by omega) hL rfl rfl rfl rfl rfl ?_
  obtain ⟨ro1, w1, t1, m1, hW1, ht1, x1, hx1, hk1⟩ := zx_135 (l := l) (D := D) (tA := tA) (ex := ex) (sc := sc) hW (yv_rg _) (yv_rg _) (yv_rg _)
  subst hx1
  refine yl_call C0 hE (N := xm135) rfl rfl m1 (Nat.le_of_ble_eq_true rfl) (Nat.le_of_ble_eq_true rfl) (Nat.le_of_ble_eq_true rfl) (Nat.le_of_ble_eq_true rfl) (by show k + 0 ≤ 600000; omega) (by show n + 0 ≤ 7302250; omega) (zrec_0 hW) ?_
  show XLS p l e s m b below meth c D tA ex (.inl (1535, yLV i, [x1], w1, k + 0, n + 0))
  refine yl_at C0 hE (S' := (1536, yLV i, [], w1, k + 0, n + 0)) (q := _) rfl (sy_pop (ycat_0 hk1)) ?_
  refine yl_at C0 hE (S' := (1537, yLV i, [.inr (.inr (1, 57))], w1, k + 0, n + 0)) (q := _) rfl rfl ?_
  refine yl_arg C0 hE hsc hl (j := 1) (by decide) (by omega) hL rfl rfl rfl rfl rfl ?_
  refine yl_arg C0 hE hsc hl (j := 2) (by decide) (by omega) hL rfl rfl rfl rfl rfl ?_
  refine yl_arg C0 hE hsc hl (j := 3) (by decide) (by omega) hL rfl rfl rfl rfl rfl ?_
  obtain ⟨ro2, w2, t2, m2, hW2, ht2, x2, hx2, hk2⟩ := zx_241 (l := l) (D := D) (tA := tA) (ex := ex) (sc := sc) hW1 (yv_rg _) (yv_rg _) (yv_rg _)
  subst hx2
  refine yl_call C0 hE (N := xm241) rfl rfl m2 (Nat.le_of_ble_eq_true rfl) (Nat.le_of_ble_eq_true rfl) (Nat.le_of_ble_eq_true rfl) (Nat.le_of_ble_eq_true rfl) (by show k + 0 + 0 ≤ 600000; omega) (by show n + 0 + 0 ≤ 7302250; omega) (zrec_57 hW1) ?_
  show XLS p l e s m b below meth c D tA ex (.inl (1555, yLV i, [x2], w2, k + 0 + 0, n + 0 + 0))
  refine yl_at C0 hE (S' := (1556, yLV i, [], w2, k + 0 + 0, n + 0 + 0)) (q := _) rfl (sy_pop (ycat_0 hk2)) ?_
  refine yl_at C0 hE (S' := (1683, yLV i, [], w2, k + 0 + 0, n + 0 + 0)) (q := _) rfl rfl ?_
  exact hK (t1 ++ t2) w2 _ _ (fun q hq => (List.mem_append.mp hq).elim (ht1 q) (ht2 q)) (by rw [← List.append_assoc]; exact ⟨_, hW2⟩) (by omega) (by omega)
theorem yop_39 (C0 : lw_At p s m meth c b L xs) (hE : XEnv D vwCl (tysX tA) ex (xSTX ++ [sc]) xSV xNW xNF (fun q : Nat => s.heap.size ≤ q) s) (hsc : ∀ j : Nat, j < L → sc[j]? = some (.inl (yv xs j, yv xs j))) (hl : sc.length = L) (hL : L ≤ 3072) {i : Nat} (hi : i + 5 < L) {ks : List Nat} {w : XW} {k n : Nat} (hW : zV ks w) (hk : k + 3 ≤ 600000) (hn : n + 19 ≤ 7302250) (hK : ∀ (tl : List Nat) (w' : XW) (k' n' : Nat), (∀ q ∈ tl, yfresh q = true) → zV (ks ++ tl) w' → k' ≤ k + 3 → n' ≤ n + 19 → XLS p l e s m b below meth c D tA ex (.inl (1683, yLV i, [], w', k', n'))) : XLS p l e s m b below meth c D tA ex (.inl (1559, yLV i, [], w, k, n)) := by
  obtain ⟨S, hW⟩ := hW
  refine yl_at C0 hE (S' := (1560, yLV i, [.inr (.inr (1, 0))], w, k, n)) (q := _) rfl rfl ?_
  obtain ⟨ro1, w1, t1, m1, hW1, ht1, x1, hx1, hk1⟩ := zx_142 (l := l) (D := D) (tA := tA) (ex := ex) (sc := sc) hW
  subst hx1
  refine yl_call C0 hE (N := xm142) rfl rfl m1 (Nat.le_of_ble_eq_true rfl) (Nat.le_of_ble_eq_true rfl) (Nat.le_of_ble_eq_true rfl) (Nat.le_of_ble_eq_true rfl) (by show k + 0 ≤ 600000; omega) (by show n + 0 ≤ 7302250; omega) (zrec_0 hW) ?_
  show XLS p l e s m b below meth c D tA ex (.inl (1563, yLV i, [x1], w1, k + 0, n + 0))
  refine yl_at C0 hE (S' := (1564, yLV i, [], w1, k + 0, n + 0)) (q := _) rfl (sy_pop (ycat_0 hk1)) ?_
  refine yl_at C0 hE (S' := (1565, yLV i, [.inr (.inr (1, 57))], w1, k + 0, n + 0)) (q := _) rfl rfl ?_
  obtain ⟨ro2, w2, t2, m2, hW2, ht2, x2, hx2, hk2⟩ := zx_243 (l := l) (D := D) (tA := tA) (ex := ex) (sc := sc) hW1
  subst hx2
  refine yl_call C0 hE (N := xm243) rfl rfl m2 (Nat.le_of_ble_eq_true rfl) (Nat.le_of_ble_eq_true rfl) (Nat.le_of_ble_eq_true rfl) (Nat.le_of_ble_eq_true rfl) (by show k + 0 + 0 ≤ 600000; omega) (by show n + 0 + 0 ≤ 7302250; omega) (zrec_57 hW1) ?_
  show XLS p l e s m b below meth c D tA ex (.inl (1568, yLV i, [x2], w2, k + 0 + 0, n + 0 + 0))
  refine yl_at C0 hE (S' := (1569, yLV i, [], w2, k + 0 + 0, n + 0 + 0)) (q := _) rfl (sy_pop (ycat_0 hk2)) ?_
  refine yl_at C0 hE (S' := (1683, yLV i, [], w2, k + 0 + 0, n + 0 + 0)) (q := _) rfl rfl ?_
  exact hK (t1 ++ t2) w2 _ _ (fun q hq => (List.mem_append.mp hq).elim (ht1 q) (ht2 q)) (by rw [← List.append_assoc]; exact ⟨_, hW2⟩) (by omega) (by omega)
theorem yop_40 (C0 : lw_At p s m meth c b L xs) (hE : XEnv D vwCl (tysX tA) ex (xSTX ++ [sc]) xSV xNW xNF (fun q : Nat => s.heap.size ≤ q) s) (hsc : ∀ j : Nat, j < L → sc[j]? = some (.inl (yv xs j, yv xs j))) (hl : sc.length = L) (hL : L ≤ 3072) {i : Nat} (hi : i + 5 < L) {ks : List Nat} {w : XW} {k n : Nat} (hW : zV ks w) (hk : k + 3 ≤ 600000) (hn : n + 19 ≤ 7302250) (hK : ∀ (tl : List Nat) (w' : XW) (k' n' : Nat), (∀ q ∈ tl, yfresh q = true) → zV (ks ++ tl) w' → k' ≤ k + 3 → n' ≤ n + 19 → XLS p l e s m b below meth c D tA ex (.inl (1683, yLV i, [], w', k', n'))) : XLS p l e s m b below meth c D tA ex (.inl (1572, yLV i, [], w, k, n)) := by
  obtain ⟨S, hW⟩ := hW
  refine yl_at C0 hE (S' := (1573, yLV i, [.inr (.inr (1, 0))], w, k, n)) (q := _) rfl rfl ?_
  obtain ⟨ro1, w1, t1, m1, hW1, ht1, x1, hx1, hk1⟩ := zx_143 (l := l) (D := D) (tA := tA) (ex := ex) (sc := sc) hW
  subst hx1
  refine yl_call C0 hE (N := xm143) rfl rfl m1 (Nat.le_of_ble_eq_true rfl) (Nat.le_of_ble_eq_true rfl) (Nat.le_of_ble_eq_true rfl) (Nat.le_of_ble_eq_true rfl) (by show k + 0 ≤ 600000; omega) (by show n + 0 ≤ 7302250; omega) (zrec_0 hW) ?_
  show XLS p l e s m b below meth c D tA ex (.inl (1576, yLV i, [x1], w1, k + 0, n + 0))
  refine yl_at C0 hE (S' := (1577, yLV i, [], w1, k + 0, n + 0)) (q := _) rfl (sy_pop (ycat_1 hk1)) ?_
  refine yl_at C0 hE (S' := (1578, yLV i, [.inr (.inr (1, 57))], w1, k + 0, n + 0)) (q := _) rfl rfl ?_
  obtain ⟨ro2, w2, t2, m2, hW2, ht2, x2, hx2, hk2⟩ := zx_244 (l := l) (D := D) (tA := tA) (ex := ex) (sc := sc) hW1
  subst hx2
  refine yl_call C0 hE (N := xm244) rfl rfl m2 (Nat.le_of_ble_eq_true rfl) (Nat.le_of_ble_eq_true rfl) (Nat.le_of_ble_eq_true rfl) (Nat.le_of_ble_eq_true rfl) (by show k + 0 + 0 ≤ 600000; omega) (by show n + 0 + 0 ≤ 7302250; omega) (zrec_57 hW1) ?_
  show XLS p l e s m b below meth c D tA ex (.inl (1581, yLV i, [x2], w2, k + 0 + 0, n + 0 + 0))
  refine yl_at C0 hE (S' := (1582, yLV i, [], w2, k + 0 + 0, n + 0 + 0)) (q := _) rfl (sy_pop (ycat_1 hk2)) ?_
  refine yl_at C0 hE (S' := (1683, yLV i, [], w2, k + 0 + 0, n + 0 + 0)) (q := _) rfl rfl ?_
  exact hK (t1 ++ t2) w2 _ _ (fun q hq => (List.mem_append.mp hq).elim (ht1 q) (ht2 q)) (by rw [← List.append_assoc]; exact ⟨_, hW2⟩) (by omega) (by omega)
theorem yop_41 (C0 : lw_At p s m meth c b L xs) (hE : XEnv D vwCl (tysX tA) ex (xSTX ++ [sc]) xSV xNW xNF (fun q : Nat => s.heap.size ≤ q) s) (hsc : ∀ j : Nat, j < L → sc[j]? = some (.inl (yv xs j, yv xs j))) (hl : sc.length = L) (hL : L ≤ 3072) {i : Nat} (hi : i + 5 < L) {ks : List Nat} {w : XW} {k n : Nat} (hW : zV ks w) (hk : k + 3 ≤ 600000) (hn : n + 19 ≤ 7302250) (hK : ∀ (tl : List Nat) (w' : XW) (k' n' : Nat), (∀ q ∈ tl, yfresh q = true) → zV (ks ++ tl) w' → k' ≤ k + 3 → n' ≤ n + 19 → XLS p l e s m b below meth c D tA ex (.inl (1683, yLV i, [], w', k', n'))) : XLS p l e s m b below meth c D tA ex (.inl (1585, yLV i, [], w, k, n)) := by
  obtain ⟨S, hW⟩ := hW
  refine yl_at C0 hE (S' := (1586, yLV i, [.inr (.inr (1, 0))], w, k, n)) (q := _) rfl rfl ?_
  obtain ⟨ro1, w1, t1, m1, hW1, ht1, x1, hx1, hk1⟩ := zx_144 (l := l) (D := D) (tA := tA) (ex := ex) (sc := sc) hW
  subst hx1
  refine yl_call C0 hE (N := xm144) rfl rfl m1 (Nat.le_of_ble_eq_true rfl) (Nat.le_of_ble_eq_true rfl) (Nat.le_of_ble_eq_true rfl) (Nat.le_of_ble_eq_true rfl) (by show k + 0 ≤ 600000; omega) (by show n + 0 ≤ 7302250; omega) (zrec_0 hW) ?_
  show XLS p l e s m b below meth c D tA ex (.inl (1589, yLV i, [x1], w1, k + 0, n + 0))
  refine yl_at C0 hE (S' := (1590, yLV i, [], w1, k + 0, n + 0)) (q := _) rfl (sy_pop (ycat_1 hk1)) ?_
  refine yl_at C0 hE (S' := (1591, yLV i, [.inr (.inr (1, 57))], w1, k + 0, n + 0)) (q := _) rfl rfl ?_
  obtain ⟨ro2, w2, t2, m2, hW2, ht2, x2, hx2, hk2⟩ := zx_245 (l := l) (D := D) (tA := tA) (ex := ex) (sc := sc) hW1
  subst hx2
  refine yl_call C0 hE (N := xm245) rfl rfl m2 (Nat.le_of_ble_eq_true rfl) (Nat.le_of_ble_eq_true rfl) (Nat.le_of_ble_eq_true rfl) (Nat.le_of_ble_eq_true rfl) (by show k + 0 + 0 ≤ 600000; omega) (by show n + 0 + 0 ≤ 7302250; omega) (zrec_57 hW1) ?_
  show XLS p l e s m b below meth c D tA ex (.inl (1594, yLV i, [x2], w2, k + 0 + 0, n + 0 + 0))
  refine yl_at C0 hE (S' := (1595, yLV i, [], w2, k + 0 + 0, n + 0 + 0)) (q := _) rfl (sy_pop (ycat_1 hk2)) ?_
  refine yl_at C0 hE (S' := (1683, yLV i, [], w2, k + 0 + 0, n + 0 + 0)) (q := _) rfl rfl ?_
  exact hK (t1 ++ t2) w2 _ _ (fun q hq => (List.mem_append.mp hq).elim (ht1 q) (ht2 q)) (by rw [← List.append_assoc]; exact ⟨_, hW2⟩) (by omega) (by omega)
theorem yop_42 (C0 : lw_At p s m meth c b L xs) (hE : XEnv D vwCl (tysX tA) ex (xSTX ++ [sc]) xSV xNW xNF (fun q : Nat => s.heap.size ≤ q) s) (hsc : ∀ j : Nat, j < L → sc[j]? = some (.inl (yv xs j, yv xs j))) (hl : sc.length = L) (hL : L ≤ 3072) {i : Nat} (hi : i + 5 < L) {ks : List Nat} {w : XW} {k n : Nat} (hW : zV ks w) (hk : k + 3 ≤ 600000) (hn : n + 19 ≤ 7302250) (hK : ∀ (tl : List Nat) (w' : XW) (k' n' : Nat), (∀ q ∈ tl, yfresh q = true) → zV (ks ++ tl) w' → k' ≤ k + 3 → n' ≤ n + 19 → XLS p l e s m b below meth c D tA ex (.inl (1683, yLV i, [], w', k', n'))) : XLS p l e s m b below meth c D tA ex (.inl (1598, yLV i, [], w, k, n)) := by
  obtain ⟨S, hW⟩ := hW
  refine yl_at C0 hE (S' := (1599, yLV i, [.inr (.inr (1, 0))], w, k, n)) (q := _) rfl rfl ?_
  obtain ⟨ro1, w1, t1, m1, hW1, ht1, x1, hx1, hk1⟩ := zx_145 (l := l) (D := D) (tA := tA) (ex := ex) (sc := sc) hW
  subst hx1
  refine yl_call C0 hE (N := xm145) rfl rfl m1 (Nat.le_of_ble_eq_true rfl) (Nat.le_of_ble_eq_true rfl) (Nat.le_of_ble_eq_true rfl) (Nat.le_of_ble_eq_true rfl) (by show k + 0 ≤ 600000; omega) (by show n + 0 ≤ 7302250; omega) (zrec_0 hW) ?_
  show XLS p l e s m b below meth c D tA ex (.inl (1602, yLV i, [x1], w1, k + 0, n + 0))
  refine yl_at C0 hE (S' := (1603, yLV i, [], w1, k + 0, n + 0)) (q := _) rfl (sy_pop (ycat_1 hk1)) ?_
  refine yl_at C0 hE (S' := (1604, yLV i, [.inr (.inr (1, 57))], w1, k + 0, n + 0)) (q := _) rfl rfl ?_
  obtain ⟨ro2, w2, t2, m2, hW2, ht2, x2, hx2, hk2⟩ := zx_246 (l := l) (D := D) (tA := tA) (ex := ex) (sc := sc) hW1
  subst hx2
  refine yl_call C0 hE (N := xm246) rfl rfl m2 (Nat.le_of_ble_eq_true rfl) (Nat.le_of_ble_eq_true rfl) (Nat.le_of_ble_eq_true rfl) (Nat.le_of_ble_eq_true rfl) (by show k + 0 + 0 ≤ 600000; omega) (by show n + 0 + 0 ≤ 7302250; omega) (zrec_57 hW1) ?_
  show XLS p l e s m b below meth c D tA ex (.inl (1607, yLV i, [x2], w2, k + 0 + 0, n + 0 + 0))
  refine yl_at C0 hE (S' := (1608, yLV i, [], w2, k + 0 + 0, n + 0 + 0)) (q := _) rfl (sy_pop (ycat_1 hk2)) ?_
  refine yl_at C0 hE (S' := (1683, yLV i, [], w2, k + 0 + 0, n + 0 + 0)) (q := _) rfl rfl ?_
  exact hK (t1 ++ t2) w2 _ _ (fun q hq => (List.mem_append.mp hq).elim (ht1 q) (ht2 q)) (by rw [← List.append_assoc]; exact ⟨_, hW2⟩) (by omega) (by omega)
theorem yop_43 (C0 : lw_At p s m meth c b L xs) (hE : XEnv D vwCl (tysX tA) ex (xSTX ++ [sc]) xSV xNW xNF (fun q : Nat => s.heap.size ≤ q) s) (hsc : ∀ j : Nat, j < L → sc[j]? = some (.inl (yv xs j, yv xs j))) (hl : sc.length = L) (hL : L ≤ 3072) {i : Nat} (hi : i + 5 < L) {ks : List Nat} {w : XW} {k n : Nat} (hW : zV ks w) (hk : k + 3 ≤ 600000) (hn : n + 19 ≤ 7302250) (hK : ∀ (tl : List Nat) (w' : XW) (k' n' : Nat), (∀ q ∈ tl, yfresh q = true) → zV (ks ++ tl) w' → k' ≤ k + 3 → n' ≤ n + 19 → XLS p l e s m b below meth c D tA ex (.inl (1683, yLV i, [], w', k', n'))) : XLS p l e s m b below meth c D tA ex (.inl (1611, yLV i, [], w, k, n)) := by
  obtain ⟨S, hW⟩ := hW
  refine yl_at C0 hE (S' := (1612, yLV i, [.inr (.inr (1, 0))], w, k, n)) (q := _) rfl rfl ?_
  refine yl_arg C0 hE hsc hl (j := 1) (by decide) (by omega) hL rfl rfl rfl rfl rfl ?_
  obtain ⟨ro1, w1, t1, m1, hW1, ht1, x1, hx1, hk1⟩ := zx_146 (l := l) (D := D) (tA := tA) (ex := ex) (sc := sc) hW (yv_rg _)
  subst hx1
  refine yl_call C0 hE (N := xm146) rfl rfl m1 (Nat.le_of_ble_eq_true rfl) (Nat.le_of_ble_eq_true rfl) (Nat.le_of_ble_eq_true rfl) (Nat.le_of_ble_eq_true rfl) (by show k + 0 ≤ 600000; omega) (by show n + 0 ≤ 7302250; omega) (zrec_0 hW) ?_
  show XLS p l e s m b below meth c D tA ex (.inl (1620, yLV i, [x1], w1, k + 0, n + 0))
  refine yl_at C0 hE (S' := (1621, yLV i, [], w1, k + 0, n + 0)) (q := _) rfl (sy_pop (ycat_0 hk1)) ?_
  refine yl_at C0 hE (S' := (1622, yLV i, [.inr (.inr (1, 57))], w1, k + 0, n + 0)) (q := _) rfl rfl ?_
  refine yl_arg C0 hE hsc hl (j := 1) (by decide) (by omega) hL rfl rfl rfl rfl rfl ?_
  obtain ⟨ro2, w2, t2, m2, hW2, ht2, x2, hx2, hk2⟩ := zx_247 (l := l) (D := D) (tA := tA) (ex := ex) (sc := sc) hW1 (yv_rg _)
  subst hx2
  refine yl_call C0 hE (N := xm247) rfl rfl m2 (Nat.le_of_ble_eq_true rfl) (Nat.le_of_ble_eq_true rfl) (Nat.le_of_ble_eq_true rfl) (Nat.le_of_ble_eq_true rfl) (by show k + 0 + 0 ≤ 600000; omega) (by show n + 0 + 0 ≤ 7302250; omega) (zrec_57 hW1) ?_
  show XLS p l e s m b below meth c D tA ex (.inl (1630, yLV i, [x2], w2, k + 0 + 0, n + 0 + 0))
  refine yl_at C0 hE (S' := (1631, yLV i, [], w2, k + 0 + 0, n + 0 + 0)) (q := _) rfl (sy_pop (ycat_0 hk2)) ?_
  refine yl_at C0 hE (S' := (1683, yLV i, [], w2, k + 0 + 0, n + 0 + 0)) (q := _) rfl rfl ?_
  exact hK (t1 ++ t2) w2 _ _ (fun q hq => (List.mem_append.mp hq).elim (ht1 q) (ht2 q)) (by rw [← List.append_assoc]; exact ⟨_, hW2⟩) (by omega) (by omega)
theorem yop_44 (C0 : lw_At p s m meth c b L xs) (hE : XEnv D vwCl (tysX tA) ex (xSTX ++ [sc]) xSV xNW xNF (fun q : Nat => s.heap.size ≤ q) s) (hsc : ∀ j : Nat, j < L → sc[j]? = some (.inl (yv xs j, yv xs j))) (hl : sc.length = L) (hL : L ≤ 3072) {i : Nat} (hi : i + 5 < L) {ks : List Nat} {w : XW} {k n : Nat} (hW : zV ks w) (hk : k + 3 ≤ 600000) (hn : n + 19 ≤ 7302250) (hK : ∀ (tl : List Nat) (w' : XW) (k' n' : Nat), (∀ q ∈ tl, yfresh q = true) → zV (ks ++ tl) w' → k' ≤ k + 3 → n' ≤ n + 19 → XLS p l e s m b below meth c D tA ex (.inl (1683, yLV i, [], w', k', n'))) : XLS p l e s m b below meth c D tA ex (.inl (1634, yLV i, [], w, k, n)) := by
  obtain ⟨S, hW⟩ := hW
  refine yl_at C0 hE (S' := (1635, yLV i, [.inr (.inr (1, 0))], w, k, n)) (q := _) rfl rfl ?_
  obtain ⟨ro1, w1, t1, m1, hW1, ht1, x1, hx1, hk1⟩ := zx_150 (l := l) (D := D) (tA := tA) (ex := ex) (sc := sc) hW
  subst hx1
  refine yl_call C0 hE (N := xm150) rfl rfl m1 (Nat.le_of_ble_eq_true rfl) (Nat.le_of_ble_eq_true rfl) (Nat.le_of_ble_eq_true rfl) (Nat.le_of_ble_eq_true rfl) (by show k + 0 ≤ 600000; omega) (by show n + 0 ≤ 7302250; omega) (zrec_0 hW) ?_
  show XLS p l e s m b below meth c D tA ex (.inl (1638, yLV i, [x1], w1, k + 0, n + 0))
  refine yl_at C0 hE (S' := (1639, yLV i, [], w1, k + 0, n + 0)) (q := _) rfl (sy_pop (ycat_0 hk1)) ?_
  refine yl_at C0 hE (S' := (1640, yLV i, [.inr (.inr (1, 57))], w1, k + 0, n + 0)) (q := _) rfl rfl ?_
  obtain ⟨ro2, w2, t2, m2, hW2, ht2, x2, hx2, hk2⟩ := zx_249 (l := l) (D := D) (tA := tA) (ex := ex) (sc := sc) hW1
  subst hx2
  refine yl_call C0 hE (N := xm249) rfl rfl m2 (Nat.le_of_ble_eq_true rfl) (Nat.le_of_ble_eq_true rfl) (Nat.le_of_ble_eq_true rfl) (Nat.le_of_ble_eq_true rfl) (by show k + 0 + 0 ≤ 600000; omega) (by show n + 0 + 0 ≤ 7302250; omega) (zrec_57 hW1) ?_
  show XLS p l e s m b below meth c D tA ex (.inl (1643, yLV i, [x2], w2, k + 0 + 0, n + 0 + 0))
  refine yl_at C0 hE (S' := (1644, yLV i, [], w2, k + 0 + 0, n + 0 + 0)) (q := _) rfl (sy_pop (ycat_0 hk2)) ?_
  refine yl_at C0 hE (S' := (1683, yLV i, [], w2, k + 0 + 0, n + 0 + 0)) (q := _) rfl rfl ?_
  exact hK (t1 ++ t2) w2 _ _ (fun q hq => (List.mem_append.mp hq).elim (ht1 q) (ht2 q)) (by rw [← List.append_assoc]; exact ⟨_, hW2⟩) (by omega) (by omega)
theorem yop_45 (C0 : lw_At p s m meth c b L xs) (hE : XEnv D vwCl (tysX tA) ex (xSTX ++ [sc]) xSV xNW xNF (fun q : Nat => s.heap.size ≤ q) s) (hsc : ∀ j : Nat, j < L → sc[j]? = some (.inl (yv xs j, yv xs j))) (hl : sc.length = L) (hL : L ≤ 3072) {i : Nat} (hi : i + 5 < L) {ks : List Nat} {w : XW} {k n : Nat} (hW : zV ks w) (hk : k + 3 ≤ 600000) (hn : n + 19 ≤ 7302250) (hK : ∀ (tl : List Nat) (w' : XW) (k' n' : Nat), (∀ q ∈ tl, yfresh q = true) → zV (ks ++ tl) w' → k' ≤ k + 3 → n' ≤ n + 19 → XLS p l e s m b below meth c D tA ex (.inl (1683, yLV i, [], w', k', n'))) : XLS p l e s m b below meth c D tA ex (.inl (1647, yLV i, [], w, k, n)) := by
  obtain ⟨S, hW⟩ := hW
  refine yl_at C0 hE (S' := (1648, yLV i, [.inr (.inr (1, 0))], w, k, n)) (q := _) rfl rfl ?_
  refine yl_arg C0 hE hsc hl (j := 1) (by decide) (by omega) hL rfl rfl rfl rfl rfl ?_
  obtain ⟨ro1, w1, t1, m1, hW1, ht1, x1, hx1, hk1⟩ := zx_151 (l := l) (D := D) (tA := tA) (ex := ex) (sc := sc) hW (yv_rg _)
  subst hx1
  refine yl_call C0 hE (N := xm151) rfl rfl m1 (Nat.le_of_ble_eq_true rfl) (Nat.le_of_ble_eq_true rfl) (Nat.le_of_ble_eq_true rfl) (Nat.le_of_ble_eq_true rfl) (by show k + 0 ≤ 600000; omega) (by show n + 0 ≤ 7302250; omega) (zrec_0 hW) ?_
  show XLS p l e s m b below meth c D tA ex (.inl (1656, yLV i, [x1], w1, k + 0, n + 0))
  refine yl_at C0 hE (S' := (1657, yLV i, [], w1, k + 0, n + 0)) (q := _) rfl (sy_pop (ycat_0 hk1)) ?_
  refine yl_at C0 hE (S' := (1658, yLV i, [.inr (.inr (1, 57))], w1, k + 0, n + 0)) (q := _) rfl rfl ?_
  refine yl_arg C0 hE hsc hl (j := 1) (by decide) (by omega) hL rfl rfl rfl rfl rfl ?_
  obtain ⟨ro2, w2, t2, m2, hW2, ht2, x2, hx2, hk2⟩ := zx_250 (l := l) (D := D) (tA := tA) (ex := ex) (sc := sc) hW1 (yv_rg _)
  subst hx2
  refine yl_call C0 hE (N := xm250) rfl rfl m2 (Nat.le_of_ble_eq_true rfl) (Nat.le_of_ble_eq_true rfl) (Nat.le_of_ble_eq_true rfl) (Nat.le_of_ble_eq_true rfl) (by show k + 0 + 0 ≤ 600000; omega) (by show n + 0 + 0 ≤ 7302250; omega) (zrec_57 hW1) ?_
  show XLS p l e s m b below meth c D tA ex (.inl (1666, yLV i, [x2], w2, k + 0 + 0, n + 0 + 0))
  refine yl_at C0 hE (S' := (1667, yLV i, [], w2, k + 0 + 0, n + 0 + 0)) (q := _) rfl (sy_pop (ycat_0 hk2)) ?_
  refine yl_at C0 hE (S' := (1683, yLV i, [], w2, k + 0 + 0, n + 0 + 0)) (q := _) rfl rfl ?_
  exact hK (t1 ++ t2) w2 _ _ (fun q hq => (List.mem_append.mp hq).elim (ht1 q) (ht2 q)) (by rw [← List.append_assoc]; exact ⟨_, hW2⟩) (by omega) (by omega)
theorem yop_46 (C0 : lw_At p s m meth c b L xs) (hE : XEnv D vwCl (tysX tA) ex (xSTX ++ [sc]) xSV xNW xNF (fun q : Nat => s.heap.size ≤ q) s) (hsc : ∀ j : Nat, j < L → sc[j]? = some (.inl (yv xs j, yv xs j))) (hl : sc.length = L) (hL : L ≤ 3072) {i : Nat} (hi : i + 5 < L) {ks : List Nat} {w : XW} {k n : Nat} (hW : zV ks w) (hk : k + 3 ≤ 600000) (hn : n + 19 ≤ 7302250) (hK : ∀ (tl : List Nat) (w' : XW) (k' n' : Nat), (∀ q ∈ tl, yfresh q = true) → zV (ks ++ tl) w' → k' ≤ k + 3 → n' ≤ n + 19 → XLS p l e s m b below meth c D tA ex (.inl (1683, yLV i, [], w', k', n'))) : XLS p l e s m b below meth c D tA ex (.inl (1670, yLV i, [], w, k, n)) := by
  obtain ⟨S, hW⟩ := hW
  refine yl_at C0 hE (S' := (1671, yLV i, [.inr (.inr (1, 0))], w, k, n)) (q := _) rfl rfl ?_
  obtain ⟨ro1, w1, t1, m1, hW1, ht1, x1, hx1, hk1⟩ := zx_152 (l := l) (D := D) (tA := tA) (ex := ex) (sc := sc) hW
  subst hx1
  refine yl_call C0 hE (N := xm152) rfl rfl m1 (Nat.le_of_ble_eq_true rfl) (Nat.le_of_ble_eq_true rfl) (Nat.le_of_ble_eq_true rfl) (Nat.le_of_ble_eq_true rfl) (by show k + 0 ≤ 600000; omega) (by show n + 0 ≤ 7302250; omega) (zrec_0 hW) ?_
  show XLS p l e s m b below meth c D tA ex (.inl (1674, yLV i, [x1], w1, k + 0, n + 0))
  refine yl_at C0 hE (S' := (1675, yLV i, [], w1, k + 0, n + 0)) (q := _) rfl (sy_pop (ycat_1 hk1)) ?_
  refine yl_at C0 hE (S' := (1676, yLV i, [.inr (.inr (1, 57))], w1, k + 0, n + 0)) (q := _) rfl rfl ?_
  obtain ⟨ro2, w2, t2, m2, hW2, ht2, x2, hx2, hk2⟩ := zx_251 (l := l) (D := D) (tA := tA) (ex := ex) (sc := sc) hW1
  subst hx2
  refine yl_call C0 hE (N := xm251) rfl rfl m2 (Nat.le_of_ble_eq_true rfl) (Nat.le_of_ble_eq_true rfl) (Nat.le_of_ble_eq_true rfl) (Nat.le_of_ble_eq_true rfl) (by show k + 0 + 0 ≤ 600000; omega) (by show n + 0 + 0 ≤ 7302250; omega) (zrec_57 hW1) ?_
  show XLS p l e s m b below meth c D tA ex (.inl (1679, yLV i, [x2], w2, k + 0 + 0, n + 0 + 0))
  refine yl_at C0 hE (S' := (1680, yLV i, [], w2, k + 0 + 0, n + 0 + 0)) (q := _) rfl (sy_pop (ycat_1 hk2)) ?_
  refine yl_at C0 hE (S' := (1683, yLV i, [], w2, k + 0 + 0, n + 0 + 0)) (q := _) rfl rfl ?_
  exact hK (t1 ++ t2) w2 _ _ (fun q hq => (List.mem_append.mp hq).elim (ht1 q) (ht2 q)) (by rw [← List.append_assoc]; exact ⟨_, hW2⟩) (by omega) (by omega)
end YL
