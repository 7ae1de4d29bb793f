/-! ===== the compared op: put ===== -/
section YL
variable {p : Program} {l : Launch} {e : Env} {s : State} {m : MethodId} {below : List Frame} {meth : Method} {c : Code} {b L : Nat} {xs : Nat → Int32} {D : va_G} {tA : Nat → ClassId} {ex : List Nat} {sc : List XV}
theorem yop_6 (C0 : lw_At p s m meth c b L xs) (hE : XEnv D vwCl (tysX tA) ex (xSTX ++ [sc]) xSV xNW xNF (fun q : Nat => s.heap.size ≤ q) s) (hsc : ∀ j : Nat, j < L → sc[j]? = some (.inl (yv xs j, yv xs j))) (hl : sc.length = L) (hL : L ≤ 3072) {i : Nat} (hi : i + 5 < L) {ks : List Nat} {w : XW} {k n : Nat} (hW : zV ks w) (hk : k + 3 ≤ 600000) (hn : n + 19 ≤ 7302250) (hK : ∀ (tl : List Nat) (w' : XW) (k' n' : Nat), (∀ q ∈ tl, yfresh q = true) → zV (ks ++ tl) w' → k' ≤ k + 3 → n' ≤ n + 19 → XLS p l e s m b below meth c D tA ex (.inl (1683, yLV i, [], w', k', n'))) : XLS p l e s m b below meth c D tA ex (.inl (454, yLV i, [], w, k, n)) := by
  obtain ⟨S, hW⟩ := hW
  refine yl_at C0 hE (S' := (455, yLV i, [.inr (.inr (1, 0))], w, k, n)) (q := _) rfl rfl ?_
  refine yl_arg C0 hE hsc hl (j := 1) (by decide) (by omega) hL rfl rfl rfl rfl rfl ?_
  refine yl_arg C0 hE hsc hl (j := 2) (by decide) (by omega) hL rfl rfl rfl rfl rfl ?_
  refine yl_arg C0 hE hsc hl (j := 3) (by decide) (by omega) hL rfl rfl rfl rfl rfl ?_
  obtain ⟨w1, m1, hW1⟩ := zc_put (l := l) (D := D) (tA := tA) (ex := ex) (sc := sc) hW (a := (yv xs (i + 1))) (i := (yv xs (i + 2))) (v := (yv xs (i + 3))) (yv_rg _) (yv_rg _)
  refine yl_call C0 hE (N := xm21) rfl rfl m1 (Nat.le_of_ble_eq_true rfl) (Nat.le_of_ble_eq_true rfl) (Nat.le_of_ble_eq_true rfl) (Nat.le_of_ble_eq_true rfl) (by show k + 0 ≤ 600000; omega) (by show n + 0 ≤ 7302250; omega) (zrec_0 hW) ?_
  show XLS p l e s m b below meth c D tA ex (.inl (473, yLV i, [.inl ((zPtA S (yv xs (i + 1)) (yv xs (i + 2))), (zPtA S (yv xs (i + 1)) (yv xs (i + 2))))], w1, k + 0, n + 0))
  refine yl_at C0 hE (S' := (474, yLV i, [.inr (.inr (1, 57)), .inl ((zPtA S (yv xs (i + 1)) (yv xs (i + 2))), (zPtA S (yv xs (i + 1)) (yv xs (i + 2))))], w1, k + 0, n + 0)) (q := _) rfl rfl ?_
  refine yl_arg C0 hE hsc hl (j := 1) (by decide) (by omega) hL rfl rfl rfl rfl rfl ?_
  refine yl_arg C0 hE hsc hl (j := 2) (by decide) (by omega) hL rfl rfl rfl rfl rfl ?_
  refine yl_arg C0 hE hsc hl (j := 3) (by decide) (by omega) hL rfl rfl rfl rfl rfl ?_
  obtain ⟨w2, m2, hW2⟩ := zm_put (l := l) (D := D) (tA := tA) (ex := ex) (sc := sc) hW1 (a := (yv xs (i + 1))) (i := (yv xs (i + 2))) (v := (yv xs (i + 3))) (yv_rg _) (yv_rg _)
  refine yl_call C0 hE (N := xm171) rfl rfl m2 (Nat.le_of_ble_eq_true rfl) (Nat.le_of_ble_eq_true rfl) (Nat.le_of_ble_eq_true rfl) (Nat.le_of_ble_eq_true rfl) (by show k + 0 + 0 ≤ 600000; omega) (by show n + 0 + 0 ≤ 7302250; omega) (zrec_57 hW1) ?_
  show XLS p l e s m b below meth c D tA ex (.inl (492, yLV i, [.inl ((zPtA S (yv xs (i + 1)) (yv xs (i + 2))), (zPtA S (yv xs (i + 1)) (yv xs (i + 2)))), .inl ((zPtA S (yv xs (i + 1)) (yv xs (i + 2))), (zPtA S (yv xs (i + 1)) (yv xs (i + 2))))], w2, k + 0 + 0, n + 0 + 0))
  refine yl_at C0 hE (S' := (1683, yLV i, [], w2, k + 0 + 0, n + 0 + 0)) (q := _) rfl (sx_icmp (o := true) (xceq_of.trans (by simp))) ?_
  exact hK [] w2 _ _ (fun q hq => by cases hq) (by rw [List.append_nil]; exact ⟨_, hW2⟩) (by omega) (by omega)
end YL
