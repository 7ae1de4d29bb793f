/-! ===== the law's loop ===== -/
set_option maxRecDepth 100000 in
theorem d_law_32 : decode code 32 = .ok (.iand, 1) := by decide +kernel
theorem sx_tabled {sc : List XV} {d lo hi : Int} {offs : Array Int} {a b : Nat} {z : Int} {pc : Nat} {lv : XL} {st : List XV} {w : XW} {k n : Nat} {x : Int} (h : hi < x) (h2 : 0 ≤ (pc : Int) + d) : xins (xcf 20 sc) xMT xFT xFD xTY xTC (xSTX ++ [sc]) xmL (.tableswitch d lo hi offs) a b z pc lv (.inl (x, x) :: st) w k n = some (.inl (((pc : Int) + d).toNat, lv, st, w, k, n)) := by
  simp only [xins, xh_table]
  rw [if_pos (Or.inr h), if_pos h2]
section YL
variable {p : Program} {l : Launch} {e : Env} {s : State} {m : MethodId} {below : List Frame} {meth : Method} {c : Code} {b L : Nat} {xs : Nat → Int32} {D : va_G} {tA : Nat → ClassId} {ex : List Nat} {sc : List XV}
theorem yhead (C0 : lw_At p s m meth c b L xs) (hE : XEnv D vwCl (tysX tA) ex (xSTX ++ [sc]) xSV xNW xNF (fun q : Nat => s.heap.size ≤ q) s) (hl : sc.length = L) (hL : L ≤ 3072) {i : Nat} {w : XW} {k n : Nat} (h : XLS p l e s m b below meth c D tA ex (.inl (24, yLV i, [.inl ((L : Int) - 6, (L : Int) - 6), .inl ((i : Int), (i : Int))], w, k, n))) : XLS p l e s m b below meth c D tA ex (.inl (18, yLV i, [], w, k, n)) := by
  refine yl_at C0 hE (S' := (19, yLV i, [.inl ((i : Int), (i : Int))], w, k, n)) (q := _) rfl rfl ?_
  refine yl_at C0 hE (S' := (20, yLV i, [.inr (.inr (2, 5)), .inl ((i : Int), (i : Int))], w, k, n)) (q := _) rfl rfl ?_
  refine yl_at C0 hE (S' := (21, yLV i, [.inl ((L : Int), (L : Int)), .inl ((i : Int), (i : Int))], w, k, n)) (q := _) rfl ?_ ?_
  · show xh_alen (xSTX ++ [sc]) 20 _ (.inr (.inr (2, 5)) :: _) w k n = _
    unfold xh_alen
    dsimp only
    rw [show xarr w (xSTX ++ [sc]) (2, 5) = some (0, sc) from rfl]
    dsimp only
    rw [if_pos (by rw [hl]; omega), hl]
    rfl
  refine yl_at C0 hE (S' := (23, yLV i, [.inl (6, 6), .inl ((L : Int), (L : Int)), .inl ((i : Int), (i : Int))], w, k, n)) (q := _) rfl rfl ?_
  refine yl_at C0 hE (S' := (24, yLV i, [.inl ((L : Int) - 6, (L : Int) - 6), .inl ((i : Int), (i : Int))], w, k, n)) (q := _) rfl ?_ h
  show xh_bin xsub 23 _ (.inl (6, 6) :: .inl ((L : Int), (L : Int)) :: _) w k n = _
  simp only [xh_bin, xsub]
  rw [if_pos ⟨by omega, by omega⟩]
theorem yl_end (C0 : lw_At p s m meth c b L xs) (hE : XEnv D vwCl (tysX tA) ex (xSTX ++ [sc]) xSV xNW xNF (fun q : Nat => s.heap.size ≤ q) s) {pc : Nat} {lv : XL} {st : List XV} {w : XW} {k n : Nat} {q : XE} {r : XR} (hf : xfetch (xm_t xmL) pc = some q) (hi : xins (xcf 20 sc) xMT xFT xFD xTY xTC (xSTX ++ [sc]) xmL q.1 q.2.1 q.2.2.1 q.2.2.2 pc lv st w k n = some r) (h : XLS p l e s m b below meth c D tA ex r) : XLS p l e s m b below meth c D tA ex (.inl (pc, lv, st, w, k, n)) := by
  refine xlaw_step (fu := 20) C0 hE (pc, lv, st, w, k, n) r ?_ h
  show xstep (xcf 20 sc) xMT xFT xFD xTY xTC (xSTX ++ [sc]) xmL (pc, lv, st, w, k, n) = some r
  unfold xstep
  dsimp only
  rw [hf]
  exact hi
theorem yexit (C0 : lw_At p s m meth c b L xs) (hE : XEnv D vwCl (tysX tA) ex (xSTX ++ [sc]) xSV xNW xNF (fun q : Nat => s.heap.size ≤ q) s) {i : Nat} (hi : L < i + 6) {w : XW} {k n : Nat} (hk : k ≤ 600000) (hn : n ≤ 7302250) : XLS p l e s m b below meth c D tA ex (.inl (24, yLV i, [.inl ((L : Int) - 6, (L : Int) - 6), .inl ((i : Int), (i : Int))], w, k, n)) := by
  refine yl_at C0 hE (S' := (1689, yLV i, [], w, k, n)) (q := _) rfl (sx_icmp (o := true) (xgt_of.trans (by rw [decide_eq_true (by omega)]))) ?_
  refine yl_at C0 hE (S' := (1690, yLV i, [.inl (1, 1)], w, k, n)) (q := _) rfl rfl ?_
  refine yl_end C0 hE (q := _) (r := .inr (some (.inl (1, 1)), w, k, n)) rfl ?_ (xlaw_end C0 ?_)
  · show xh_ret 0 (xm_r xmL) [.inl (1, 1)] w k n = _
    unfold xh_ret
    exact if_pos (by decide +kernel)
  show (decide (((1 : Int), (1 : Int)) = (1, 1)) && decide (k ≤ 600000 ∧ n ≤ 7302250)) = true
  rw [decide_eq_true (show k ≤ 600000 ∧ n ≤ 7302250 from ⟨hk, hn⟩)]
  rfl
theorem yand (C0 : lw_At p s m meth c b L xs) {i : Nat} {w : XW} {k n : Nat} {x : Int} (h : ∀ j : Nat, j < 64 → XLS p l e s m b below meth c D tA ex (.inl (33, yLV i, [.inl ((j : Int), (j : Int))], w, k, n))) : XLS p l e s m b below meth c D tA ex (.inl (32, yLV i, [.inl (63, 63), .inl (x, x)], w, k, n)) := by
  obtain ⟨hx, hb, hr, hml, hown, hts, hX, hbl, hlocks, hgv⟩ := id C0
  intro H locs ls vs lw ws ⟨h1, h2, h3, h4, h5, h6, h7, h8⟩
  obtain ⟨_, _, rfl, ⟨y, rfl, y1, y2⟩, _, _, rfl, ⟨x0, rfl, x1, x2⟩, rfl⟩ := h2
  have hy : y = 63 := Int32.toInt_inj.mp (show y.toInt = 63 by
    have y1 : (63 : Int) ≤ y.toInt := y1
    have y2 : y.toInt ≤ (63 : Int) := y2
    omega)
  subst hy
  refine lv_iand hx hb d_law_32 ?_
  obtain ⟨j, hj, hj2⟩ := pk_andE x0 (m := 63) 6 (by decide +kernel)
  rw [hj2]
  have hj : j < 64 := hj
  exact h j hj H locs ls [.int (nI j)] lw ws ⟨h1, ⟨.int (nI j), [], rfl, ⟨nI j, rfl, by rw [nI_toInt (by omega)]; exact Int.le_refl _, by rw [nI_toInt (by omega)]; exact Int.le_refl _⟩, rfl⟩, h3, h4, h5, h6, h7, h8⟩
theorem ytail (C0 : lw_At p s m meth c b L xs) (hE : XEnv D vwCl (tysX tA) ex (xSTX ++ [sc]) xSV xNW xNF (fun q : Nat => s.heap.size ≤ q) s) {i : Nat} (hi : i ≤ 3072) {w : XW} {k n : Nat} (h : XLS p l e s m b below meth c D tA ex (.inl (18, yLV (i + 6), [], w, k, n))) : XLS p l e s m b below meth c D tA ex (.inl (1683, yLV i, [], w, k, n)) := by
  refine yl_at C0 hE (S' := (1683 + 3, yLV (i + 6), [], w, k, n)) (q := _) rfl (sx_iinc (x := (i : Int)) rfl (by decide) (by show -2147483648 ≤ (i : Int) + 6 ∧ (i : Int) + 6 ≤ 2147483647; omega)) ?_
  exact yl_at C0 hE (S' := (18, yLV (i + 6), [], w, k, n)) (q := _) rfl rfl h
theorem ytable (C0 : lw_At p s m meth c b L xs) (hE : XEnv D vwCl (tysX tA) ex (xSTX ++ [sc]) xSV xNW xNF (fun q : Nat => s.heap.size ≤ q) s) (hsc : ∀ j : Nat, j < L → sc[j]? = some (.inl (yv xs j, yv xs j))) (hl : sc.length = L) (hL : L ≤ 3072) {i : Nat} (hi : i + 5 < L) {ks : List Nat} {w : XW} {k n : Nat} (hW : zV ks w) (hk : k + 3 ≤ 600000) (hn : n + 19 ≤ 7302250) (hK : ∀ (tl : List Nat) (w' : XW) (k' n' : Nat), (∀ q ∈ tl, yfresh q = true) → zV (ks ++ tl) w' → k' ≤ k + 3 → n' ≤ n + 19 → XLS p l e s m b below meth c D tA ex (.inl (1683, yLV i, [], w', k', n'))) : ∀ j : Nat, j < 64 → XLS p l e s m b below meth c D tA ex (.inl (33, yLV i, [.inl ((j : Int), (j : Int))], w, k, n))
  | 0, _ => yl_at C0 hE (S' := (236, yLV i, [], w, k, n)) (q := _) rfl rfl (yop_0 C0 hE hsc hl hL hi hW hk hn hK)
  | 1, _ => yl_at C0 hE (S' := (269, yLV i, [], w, k, n)) (q := _) rfl rfl (yop_1 C0 hE hsc hl hL hi hW hk hn hK)
  | 2, _ => yl_at C0 hE (S' := (312, yLV i, [], w, k, n)) (q := _) rfl rfl (yop_2 C0 hE hsc hl hL hi hW hk hn hK)
  | 3, _ => yl_at C0 hE (S' := (335, yLV i, [], w, k, n)) (q := _) rfl rfl (yop_3 C0 hE hsc hl hL hi hW hk hn hK)
  | 4, _ => yl_at C0 hE (S' := (398, yLV i, [], w, k, n)) (q := _) rfl rfl (yop_4 C0 hE hsc hl hL hi hW hk hn hK)
  | 5, _ => yl_at C0 hE (S' := (421, yLV i, [], w, k, n)) (q := _) rfl rfl (yop_5 C0 hE hsc hl hL hi hW hk hn hK)
  | 6, _ => yl_at C0 hE (S' := (454, yLV i, [], w, k, n)) (q := _) rfl rfl (yop_6 C0 hE hsc hl hL hi hW hk hn hK)
  | 7, _ => yl_at C0 hE (S' := (497, yLV i, [], w, k, n)) (q := _) rfl rfl (yop_7 C0 hE hsc hl hL hi hW hk hn hK)
  | 8, _ => yl_at C0 hE (S' := (546, yLV i, [], w, k, n)) (q := _) rfl rfl (yop_8 C0 hE hsc hl hL hi hW hk hn hK)
  | 9, _ => yl_at C0 hE (S' := (599, yLV i, [], w, k, n)) (q := _) rfl rfl (yop_9 C0 hE hsc hl hL hi hW hk hn hK)
  | 10, _ => yl_at C0 hE (S' := (632, yLV i, [], w, k, n)) (q := _) rfl rfl (yop_10 C0 hE hsc hl hL hi hW hk hn hK)
  | 11, _ => yl_at C0 hE (S' := (665, yLV i, [], w, k, n)) (q := _) rfl rfl (yop_11 C0 hE hsc hl hL hi hW hk hn hK)
  | 12, _ => yl_at C0 hE (S' := (688, yLV i, [], w, k, n)) (q := _) rfl rfl (yop_12 C0 hE hsc hl hL hi hW hk hn hK)
  | 13, _ => yl_at C0 hE (S' := (711, yLV i, [], w, k, n)) (q := _) rfl rfl (yop_13 C0 hE hsc hl hL hi hW hk hn hK)
  | 14, _ => yl_at C0 hE (S' := (764, yLV i, [], w, k, n)) (q := _) rfl rfl (yop_14 C0 hE hsc hl hL hi hW hk hn hK)
  | 15, _ => yl_at C0 hE (S' := (797, yLV i, [], w, k, n)) (q := _) rfl rfl (yop_15 C0 hE hsc hl hL hi hW hk hn hK)
  | 16, _ => yl_at C0 hE (S' := (830, yLV i, [], w, k, n)) (q := _) rfl rfl (yop_16 C0 hE hsc hl hL hi hW hk hn hK)
  | 17, _ => yl_at C0 hE (S' := (853, yLV i, [], w, k, n)) (q := _) rfl rfl (yop_17 C0 hE hsc hl hL hi hW hk hn hK)
  | 18, _ => yl_at C0 hE (S' := (886, yLV i, [], w, k, n)) (q := _) rfl rfl (yop_18 C0 hE hsc hl hL hi hW hk hn hK)
  | 19, _ => yl_at C0 hE (S' := (899, yLV i, [], w, k, n)) (q := _) rfl rfl (yop_19 C0 hE hsc hl hL hi hW hk hn hK)
  | 20, _ => yl_at C0 hE (S' := (922, yLV i, [], w, k, n)) (q := _) rfl rfl (yop_20 C0 hE hsc hl hL hi hW hk hn hK)
  | 21, _ => yl_at C0 hE (S' := (955, yLV i, [], w, k, n)) (q := _) rfl rfl (yop_21 C0 hE hsc hl hL hi hW hk hn hK)
  | 22, _ => yl_at C0 hE (S' := (978, yLV i, [], w, k, n)) (q := _) rfl rfl (yop_22 C0 hE hsc hl hL hi hW hk hn hK)
  | 23, _ => yl_at C0 hE (S' := (1001, yLV i, [], w, k, n)) (q := _) rfl rfl (yop_23 C0 hE hsc hl hL hi hW hk hn hK)
  | 24, _ => yl_at C0 hE (S' := (1034, yLV i, [], w, k, n)) (q := _) rfl rfl (yop_24 C0 hE hsc hl hL hi hW hk hn hK)
  | 25, _ => yl_at C0 hE (S' := (1077, yLV i, [], w, k, n)) (q := _) rfl rfl (yop_25 C0 hE hsc hl hL hi hW hk hn hK)
  | 26, _ => yl_at C0 hE (S' := (1110, yLV i, [], w, k, n)) (q := _) rfl rfl (yop_26 C0 hE hsc hl hL hi hW hk hn hK)
  | 27, _ => yl_at C0 hE (S' := (1143, yLV i, [], w, k, n)) (q := _) rfl rfl (yop_27 C0 hE hsc hl hL hi hW hk hn hK)
  | 28, _ => yl_at C0 hE (S' := (1176, yLV i, [], w, k, n)) (q := _) rfl rfl (yop_28 C0 hE hsc hl hL hi hW hk hn hK)
  | 29, _ => yl_at C0 hE (S' := (1229, yLV i, [], w, k, n)) (q := _) rfl rfl (yop_29 C0 hE hsc hl hL hi hW hk hn hK)
  | 30, _ => yl_at C0 hE (S' := (1272, yLV i, [], w, k, n)) (q := _) rfl rfl (yop_30 C0 hE hsc hl hL hi hW hk hn hK)
  | 31, _ => yl_at C0 hE (S' := (1295, yLV i, [], w, k, n)) (q := _) rfl rfl (yop_31 C0 hE hsc hl hL hi hW hk hn hK)
  | 32, _ => yl_at C0 hE (S' := (1328, yLV i, [], w, k, n)) (q := _) rfl rfl (yop_32 C0 hE hsc hl hL hi hW hk hn hK)
  | 33, _ => yl_at C0 hE (S' := (1361, yLV i, [], w, k, n)) (q := _) rfl rfl (yop_33 C0 hE hsc hl hL hi hW hk hn hK)
  | 34, _ => yl_at C0 hE (S' := (1384, yLV i, [], w, k, n)) (q := _) rfl rfl (yop_34 C0 hE hsc hl hL hi hW hk hn hK)
  | 35, _ => yl_at C0 hE (S' := (1427, yLV i, [], w, k, n)) (q := _) rfl rfl (yop_35 C0 hE hsc hl hL hi hW hk hn hK)
  | 36, _ => yl_at C0 hE (S' := (1450, yLV i, [], w, k, n)) (q := _) rfl rfl (yop_36 C0 hE hsc hl hL hi hW hk hn hK)
  | 37, _ => yl_at C0 hE (S' := (1483, yLV i, [], w, k, n)) (q := _) rfl rfl (yop_37 C0 hE hsc hl hL hi hW hk hn hK)
  | 38, _ => yl_at C0 hE (S' := (1516, yLV i, [], w, k, n)) (q := _) rfl rfl (yop_38 C0 hE hsc hl hL hi hW hk hn hK)
  | 39, _ => yl_at C0 hE (S' := (1559, yLV i, [], w, k, n)) (q := _) rfl rfl (yop_39 C0 hE hsc hl hL hi hW hk hn hK)
  | 40, _ => yl_at C0 hE (S' := (1572, yLV i, [], w, k, n)) (q := _) rfl rfl (yop_40 C0 hE hsc hl hL hi hW hk hn hK)
  | 41, _ => yl_at C0 hE (S' := (1585, yLV i, [], w, k, n)) (q := _) rfl rfl (yop_41 C0 hE hsc hl hL hi hW hk hn hK)
  | 42, _ => yl_at C0 hE (S' := (1598, yLV i, [], w, k, n)) (q := _) rfl rfl (yop_42 C0 hE hsc hl hL hi hW hk hn hK)
  | 43, _ => yl_at C0 hE (S' := (1611, yLV i, [], w, k, n)) (q := _) rfl rfl (yop_43 C0 hE hsc hl hL hi hW hk hn hK)
  | 44, _ => yl_at C0 hE (S' := (1634, yLV i, [], w, k, n)) (q := _) rfl rfl (yop_44 C0 hE hsc hl hL hi hW hk hn hK)
  | 45, _ => yl_at C0 hE (S' := (1647, yLV i, [], w, k, n)) (q := _) rfl rfl (yop_45 C0 hE hsc hl hL hi hW hk hn hK)
  | 46, _ => yl_at C0 hE (S' := (1670, yLV i, [], w, k, n)) (q := _) rfl rfl (yop_46 C0 hE hsc hl hL hi hW hk hn hK)
  | j + 47, _ => by
    exact yl_at C0 hE (S' := (1683, yLV i, [], w, k, n)) (q := _) rfl (sx_tabled (by omega) (by decide)) (hK [] w k n (fun q hq => by cases hq) (by rw [List.append_nil]; exact hW) (by omega) (by omega))
theorem ybody (C0 : lw_At p s m meth c b L xs) (hE : XEnv D vwCl (tysX tA) ex (xSTX ++ [sc]) xSV xNW xNF (fun q : Nat => s.heap.size ≤ q) s) (hsc : ∀ j : Nat, j < L → sc[j]? = some (.inl (yv xs j, yv xs j))) (hl : sc.length = L) (hL : L ≤ 3072) {i : Nat} (hi : i + 5 < L) {ks : List Nat} {w : XW} {k n : Nat} (hW : zV ks w) (hk : k + 3 ≤ 600000) (hn : n + 19 ≤ 7302250) (hK : ∀ (tl : List Nat) (w' : XW) (k' n' : Nat), (∀ q ∈ tl, yfresh q = true) → zV (ks ++ tl) w' → k' ≤ k + 3 → n' ≤ n + 19 → XLS p l e s m b below meth c D tA ex (.inl (1683, yLV i, [], w', k', n'))) : XLS p l e s m b below meth c D tA ex (.inl (27, yLV i, [], w, k, n)) := by
  refine yl_at C0 hE (S' := (28, yLV i, [.inr (.inr (2, 5))], w, k, n)) (q := _) rfl rfl ?_
  refine yl_at C0 hE (S' := (29, yLV i, [.inl ((i : Int), (i : Int)), .inr (.inr (2, 5))], w, k, n)) (q := _) rfl rfl ?_
  refine yl_at C0 hE (S' := (30, yLV i, [.inl (yv xs i, yv xs i)], w, k, n)) (q := _) rfl ?_ ?_
  · have hr : xread sc ((i : Int), (i : Int)) = some (.inl (yv xs i, yv xs i)) := by
      unfold xread
      rw [if_pos ⟨by show (0 : Int) ≤ (i : Int); omega, by show (i : Int) < (sc.length : Int); omega⟩, if_pos rfl]
      exact hsc _ (by omega)
    show xh_ald 0 0 (xSTX ++ [sc]) 29 _ (.inl ((i : Int), (i : Int)) :: .inr (.inr (2, 5)) :: _) w k n = _
    unfold xh_ald
    dsimp only
    rw [show xarr w (xSTX ++ [sc]) (2, 5) = some (0, sc) from rfl]
    dsimp only
    rw [if_pos (Or.inl rfl), hr]
    rfl
  refine yl_at C0 hE (S' := (32, yLV i, [.inl (63, 63), .inl (yv xs i, yv xs i)], w, k, n)) (q := _) rfl rfl ?_
  exact yand C0 (ytable C0 hE hsc hl hL hi hW hk hn hK)
theorem yloop (C0 : lw_At p s m meth c b L xs) (hE : XEnv D vwCl (tysX tA) ex (xSTX ++ [sc]) xSV xNW xNF (fun q : Nat => s.heap.size ≤ q) s) (hsc : ∀ j : Nat, j < L → sc[j]? = some (.inl (yv xs j, yv xs j))) (hl : sc.length = L) (hL : L ≤ 3072) : ∀ (f t : Nat), t + f = 512 → ∀ {ks : List Nat} {w : XW} {k n : Nat}, zV ks w → k ≤ 162 + 3 * t → n ≤ 6070 + 19 * t → XLS p l e s m b below meth c D tA ex (.inl (18, yLV (6 * t), [], w, k, n)) := by
  intro f
  induction f with
  | zero =>
    intro t ht ks w k n hW hk hn
    exact yhead C0 hE hl hL (yexit C0 hE (by omega) (by omega) (by omega))
  | succ f ih =>
    intro t ht ks w k n hW hk hn
    refine yhead C0 hE hl hL ?_
    by_cases hi : L < 6 * t + 6
    · exact yexit C0 hE hi (by omega) (by omega)
    refine yl_at C0 hE (S' := (27, yLV (6 * t), [], w, k, n)) (q := _) rfl (sx_icmp (o := false) (xgt_of.trans (by rw [decide_eq_false (by omega)]))) ?_
    refine ybody C0 hE hsc hl hL (by omega) hW (by omega) (by omega) (fun tl w' k' n' _ hW' hk' hn' => ytail C0 hE (by omega) ?_)
    exact ih (t + 1) (by omega) hW' (by omega) (by omega)
end YL
