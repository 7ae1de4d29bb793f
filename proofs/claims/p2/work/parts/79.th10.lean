/-! ===== op 0: the row ===== -/
def yrv (a b : Int) : Int := if a < 0 then -1 else if 6 ≤ a then -1 else if 41 ≤ b then -1 else if b < 0 then -3 else b
def yRowA : List YA := [(some (.inr (-1, [])), [(-1, [(1, -1)])], none), (some (.inr (-1, [])), [(-6, [(1, 1)])], none), (some (.inr (-1, [])), [(-41, [(2, 1)]), (0, [(1, 1)]), (5, [(1, -1)])], none), (some (.inr (-3, [])), [(-1, [(2, -1)]), (0, [(1, 1)]), (5, [(1, -1)])], none), (some (.inr (0, [(2, 1)])), [(0, [(1, 1)]), (0, [(2, 1)]), (5, [(1, -1)]), (40, [(2, -1)])], none)]
theorem ysame {v u : Int} (h : v = u) : (some (.inl (v, v)) : Option XV) = some (.inl (u, u)) := by rw [h]
theorem yrow_v {ks : List Nat} {nu : Nat → Int} {ro : Option XV} {a b : Int} (n1 : nu 1 = a) (n2 : nu 2 = b) {A : YA} (hA : A ∈ yRowA) (h1 : yans ks nu A.1 ro) (h2 : ∀ g ∈ A.2.1, 0 ≤ yev nu g) : ro = some (.inl (yrv a b, yrv a b)) := by
  unfold yRowA at hA
  simp only [List.mem_cons, List.mem_nil_iff, or_false] at hA
  rcases hA with rfl | rfl | rfl | rfl | rfl
  all_goals
    refine h1.1.trans (ysame ?_)
    simp only [List.mem_cons, List.mem_nil_iff, or_false, forall_eq_or_imp, forall_eq, yev, ysum, n1, n2] at h2 ⊢
    unfold yrv
    repeat' split
    all_goals omega
section YL
variable {p : Program} {l : Launch} {e : Env} {s : State} {m : MethodId} {below : List Frame} {meth : Method} {c : Code} {b L : Nat} {xs : Nat → Int32} {D : va_G} {tA : Nat → ClassId} {ex : List Nat} {sc : List XV}
set_option maxRecDepth 4000 in
theorem yrow_8 {ks : List Nat} {w : XW} (hW : yW ks w) {a0 a1 : Int} (h0 : yrg a0) (h1 : yrg a1) : ∃ w', XMet l D vwCl (tysX tA) tA ex (xSTX ++ [sc]) xSV xNW xNF xTs xm8 [.inr (.inr (1, 0)), .inl (a0, a0), .inl (a1, a1)] w (some (.inl (yrv a0 a1, yrv a0 a1))) w' ∧ yW ks w' := by
  obtain ⟨ro, w', gs, m1, m2, A, hA, a1', a2'⟩ := ytot (as := [.inr (.inr (1, 0)), .inl (a0, a0), .inl (a1, a1)]) (yall (l := l) (D := D) (tA := tA) (ex := ex) (sc := sc) 8 xm8 _ rfl (yct_of (L := yD505) (i := 501) (d := yD_4) rfl)) (by decide +kernel) ⟨_, _, rfl, Or.inr ⟨0, rfl, hW.2.1⟩, _, _, rfl, ytop_in h0, _, _, rfl, ytop_in h1, rfl⟩ hW.1
  have hm : ∀ A ∈ yD_4.2.1.2.2.2, A ∈ yRowA := by
    intro A hA
    unfold yD_4 at hA
    simp only [List.mem_cons, List.mem_nil_iff, or_false] at hA
    rcases hA with rfl | rfl | rfl | rfl | rfl <;> simp [yRowA]
  have hv := yrow_v (a := a0) (b := a1) rfl rfl (hm A hA) a1' a2'
  subst hv
  have hq := hW.app (tl := []) (w' := w') (fun k hk => by cases hk) (by rw [List.append_nil]; exact m2)
  rw [List.append_nil] at hq
  exact ⟨w', m1, hq⟩
set_option maxRecDepth 4000 in
theorem yrow_158 {ks : List Nat} {w : XW} (hW : yW ks w) {a0 a1 : Int} (h0 : yrg a0) (h1 : yrg a1) : ∃ w', XMet l D vwCl (tysX tA) tA ex (xSTX ++ [sc]) xSV xNW xNF xTs xm158 [.inr (.inr (1, 57)), .inl (a0, a0), .inl (a1, a1)] w (some (.inl (yrv a0 a1, yrv a0 a1))) w' ∧ yW ks w' := by
  obtain ⟨ro, w', gs, m1, m2, A, hA, a1', a2'⟩ := ytot (as := [.inr (.inr (1, 57)), .inl (a0, a0), .inl (a1, a1)]) (yall (l := l) (D := D) (tA := tA) (ex := ex) (sc := sc) 158 xm158 _ rfl (yct_of (L := yD505) (i := 225) (d := yD_280) rfl)) (by decide +kernel) ⟨_, _, rfl, Or.inr ⟨57, rfl, hW.2.2.1⟩, _, _, rfl, ytop_in h0, _, _, rfl, ytop_in h1, rfl⟩ hW.1
  have hm : ∀ A ∈ yD_280.2.1.2.2.2, A ∈ yRowA := by
    intro A hA
    unfold yD_280 at hA
    simp only [List.mem_cons, List.mem_nil_iff, or_false] at hA
    rcases hA with rfl | rfl | rfl | rfl | rfl <;> simp [yRowA]
  have hv := yrow_v (a := a0) (b := a1) rfl rfl (hm A hA) a1' a2'
  subst hv
  have hq := hW.app (tl := []) (w' := w') (fun k hk => by cases hk) (by rw [List.append_nil]; exact m2)
  rw [List.append_nil] at hq
  exact ⟨w', m1, hq⟩
theorem yop_0 (C0 : lw_At p s m meth c b L xs) (hE : XEnv D vwCl (tysX tA) ex (xSTX ++ [sc]) xSV xNW xNF (fun q : Nat => s.heap.size ≤ q) s) (hsc : ∀ j : Nat, j < L → sc[j]? = some (.inl (yv xs j, yv xs j))) (hl : sc.length = L) (hL : L ≤ 3072) {i : Nat} (hi : i + 5 < L) {ks : List Nat} {w : XW} {k n : Nat} (hW : yW ks w) (hk : k + 3 ≤ 600000) (hn : n + 19 ≤ 7302250) (hK : ∀ (tl : List Nat) (w' : XW) (k' n' : Nat), (∀ q ∈ tl, yfresh q = true) → yW (ks ++ tl) w' → k' ≤ k + 3 → n' ≤ n + 19 → XLS p l e s m b below meth c D tA ex (.inl (1683, yLV i, [], w', k', n'))) : XLS p l e s m b below meth c D tA ex (.inl (236, yLV i, [], w, k, n)) := by
  refine yl_at C0 hE (S' := (237, yLV i, [.inr (.inr (1, 0))], w, k, n)) (q := _) rfl rfl ?_
  refine yl_arg C0 hE hsc hl (j := 1) (by decide) (by omega) hL rfl rfl rfl rfl rfl ?_
  refine yl_arg C0 hE hsc hl (j := 2) (by decide) (by omega) hL rfl rfl rfl rfl rfl ?_
  obtain ⟨w1, m1, hW1⟩ := yrow_8 (l := l) (D := D) (tA := tA) (ex := ex) (sc := sc) hW (yv_rg (xs := xs) (i + 1)) (yv_rg (xs := xs) (i + 2))
  refine yl_call C0 hE (N := xm8) rfl rfl m1 (Nat.le_of_ble_eq_true rfl) (Nat.le_of_ble_eq_true rfl) (Nat.le_of_ble_eq_true rfl) (Nat.le_of_ble_eq_true rfl) (by show k + 0 ≤ 600000; omega) (by show n + 0 ≤ 7302250; omega) (yrec_0 hW) ?_
  show XLS p l e s m b below meth c D tA ex (.inl (250, yLV i, [.inl (yrv (yv xs (i + 1)) (yv xs (i + 2)), yrv (yv xs (i + 1)) (yv xs (i + 2)))], w1, k + 0, n + 0))
  refine yl_at C0 hE (S' := (251, yLV i, [.inr (.inr (1, 57)), .inl (yrv (yv xs (i + 1)) (yv xs (i + 2)), yrv (yv xs (i + 1)) (yv xs (i + 2)))], w1, k + 0, n + 0)) (q := _) rfl rfl ?_
  refine yl_arg C0 hE hsc hl (j := 1) (by decide) (by omega) hL rfl rfl rfl rfl rfl ?_
  refine yl_arg C0 hE hsc hl (j := 2) (by decide) (by omega) hL rfl rfl rfl rfl rfl ?_
  obtain ⟨w2, m2, hW2⟩ := yrow_158 (l := l) (D := D) (tA := tA) (ex := ex) (sc := sc) hW1 (yv_rg (xs := xs) (i + 1)) (yv_rg (xs := xs) (i + 2))
  refine yl_call C0 hE (N := xm158) rfl rfl m2 (Nat.le_of_ble_eq_true rfl) (Nat.le_of_ble_eq_true rfl) (Nat.le_of_ble_eq_true rfl) (Nat.le_of_ble_eq_true rfl) (by show k + 0 + 0 ≤ 600000; omega) (by show n + 0 + 0 ≤ 7302250; omega) (yrec_57 hW1) ?_
  show XLS p l e s m b below meth c D tA ex (.inl (264, yLV i, [.inl (yrv (yv xs (i + 1)) (yv xs (i + 2)), yrv (yv xs (i + 1)) (yv xs (i + 2))), .inl (yrv (yv xs (i + 1)) (yv xs (i + 2)), yrv (yv xs (i + 1)) (yv xs (i + 2)))], w2, k + 0 + 0, n + 0 + 0))
  refine yl_at C0 hE (S' := (1683, yLV i, [], w2, k + 0 + 0, n + 0 + 0)) (q := _) rfl (sx_icmp (o := true) (xceq_of.trans (by simp))) ?_
  exact hK [] w2 _ _ (fun q hq => by cases hq) (by rw [List.append_nil]; exact hW2) (by omega) (by omega)
end YL
