/-! ===== the compared op ===== -/
def yca_19 (a0 a1 z : Int) : Prop := (z = (-1 : Int) ∧ 0 ≤ (-1 : Int) - 1 * a0) ∨ (z = (-1 : Int) ∧ 0 ≤ (-4 : Int) + 1 * a0) ∨ (z = (-1 : Int) ∧ 0 ≤ (-41 : Int) + 1 * a1 ∧ 0 ≤ (0 : Int) + 1 * a0 ∧ 0 ≤ (3 : Int) - 1 * a0) ∨ (z = (-3 : Int) ∧ 0 ≤ (-1 : Int) - 1 * a1 ∧ 0 ≤ (0 : Int) + 1 * a0 ∧ 0 ≤ (3 : Int) - 1 * a0) ∨ (z = (0 : Int) + 1 * a1 ∧ 0 ≤ (0 : Int) + 1 * a0 ∧ 0 ≤ (0 : Int) + 1 * a1 ∧ 0 ≤ (3 : Int) - 1 * a0 ∧ 0 ≤ (40 : Int) - 1 * a1)
theorem ycb_19 {ks : List Nat} {nu : Nat → Int} {ro : Option XV} {a0 a1 : Int} (n1 : nu 1 = a0) (n2 : nu 2 = a1) {A : YA} (hA : A ∈ yD_14.2.1.2.2.2) (h1 : yans ks nu A.1 ro) (h2 : ∀ g ∈ A.2.1, 0 ≤ yev nu g) : ∃ z, ro = some (.inl (z, z)) ∧ yca_19 a0 a1 z := by
  unfold yD_14 at hA
  simp only [List.mem_cons, List.mem_nil_iff, or_false] at hA
  rcases hA with rfl | rfl | rfl | rfl | rfl
  · refine ⟨_, h1.1, ?_⟩
    simp only [List.mem_cons, List.mem_nil_iff, or_false, forall_eq_or_imp, forall_eq, false_implies, implies_true, yev, ysum, n1, n2] at h2 ⊢
    unfold yca_19
    omega
  · refine ⟨_, h1.1, ?_⟩
    simp only [List.mem_cons, List.mem_nil_iff, or_false, forall_eq_or_imp, forall_eq, false_implies, implies_true, yev, ysum, n1, n2] at h2 ⊢
    unfold yca_19
    omega
  · refine ⟨_, h1.1, ?_⟩
    simp only [List.mem_cons, List.mem_nil_iff, or_false, forall_eq_or_imp, forall_eq, false_implies, implies_true, yev, ysum, n1, n2] at h2 ⊢
    unfold yca_19
    omega
  · refine ⟨_, h1.1, ?_⟩
    simp only [List.mem_cons, List.mem_nil_iff, or_false, forall_eq_or_imp, forall_eq, false_implies, implies_true, yev, ysum, n1, n2] at h2 ⊢
    unfold yca_19
    omega
  · refine ⟨_, h1.1, ?_⟩
    simp only [List.mem_cons, List.mem_nil_iff, or_false, forall_eq_or_imp, forall_eq, false_implies, implies_true, yev, ysum, n1, n2] at h2 ⊢
    unfold yca_19
    omega
def yca_169 (a0 a1 z : Int) : Prop := (z = (-1 : Int) ∧ 0 ≤ (-41 : Int) + 1 * a1 ∧ 0 ≤ (0 : Int) + 1 * a0 ∧ 0 ≤ (3 : Int) - 1 * a0) ∨ (z = (-3 : Int) ∧ 0 ≤ (-1 : Int) - 1 * a1 ∧ 0 ≤ (0 : Int) + 1 * a0 ∧ 0 ≤ (3 : Int) - 1 * a0) ∨ (z = (0 : Int) + 1 * a1 ∧ 0 ≤ (0 : Int) + 1 * a0 ∧ 0 ≤ (0 : Int) + 1 * a1 ∧ 0 ≤ (3 : Int) - 1 * a0 ∧ 0 ≤ (40 : Int) - 1 * a1) ∨ (z = (-1 : Int) ∧ 0 ≤ (-4 : Int) + 1 * a0) ∨ (z = (-1 : Int) ∧ 0 ≤ (-1 : Int) - 1 * a0)
theorem ycb_169 {ks : List Nat} {nu : Nat → Int} {ro : Option XV} {a0 a1 : Int} (n1 : nu 1 = a0) (n2 : nu 2 = a1) {A : YA} (hA : A ∈ yD_289.2.1.2.2.2) (h1 : yans ks nu A.1 ro) (h2 : ∀ g ∈ A.2.1, 0 ≤ yev nu g) : ∃ z, ro = some (.inl (z, z)) ∧ yca_169 a0 a1 z := by
  unfold yD_289 at hA
  simp only [List.mem_cons, List.mem_nil_iff, or_false] at hA
  rcases hA with rfl | rfl | rfl | rfl | rfl
  · refine ⟨_, h1.1, ?_⟩
    simp only [List.mem_cons, List.mem_nil_iff, or_false, forall_eq_or_imp, forall_eq, false_implies, implies_true, yev, ysum, n1, n2] at h2 ⊢
    unfold yca_169
    omega
  · refine ⟨_, h1.1, ?_⟩
    simp only [List.mem_cons, List.mem_nil_iff, or_false, forall_eq_or_imp, forall_eq, false_implies, implies_true, yev, ysum, n1, n2] at h2 ⊢
    unfold yca_169
    omega
  · refine ⟨_, h1.1, ?_⟩
    simp only [List.mem_cons, List.mem_nil_iff, or_false, forall_eq_or_imp, forall_eq, false_implies, implies_true, yev, ysum, n1, n2] at h2 ⊢
    unfold yca_169
    omega
  · refine ⟨_, h1.1, ?_⟩
    simp only [List.mem_cons, List.mem_nil_iff, or_false, forall_eq_or_imp, forall_eq, false_implies, implies_true, yev, ysum, n1, n2] at h2 ⊢
    unfold yca_169
    omega
  · refine ⟨_, h1.1, ?_⟩
    simp only [List.mem_cons, List.mem_nil_iff, or_false, forall_eq_or_imp, forall_eq, false_implies, implies_true, yev, ysum, n1, n2] at h2 ⊢
    unfold yca_169
    omega
theorem ycs {a0 a1 z u : Int} (h1 : yca_19 a0 a1 z) (h2 : yca_169 a0 a1 u) : z = u := by
  unfold yca_19 at h1
  unfold yca_169 at h2
  rcases h1 with h1 | h1 | h1 | h1 | h1 <;> rcases h2 with h2 | h2 | h2 | h2 | h2 <;> omega
section YL
variable {p : Program} {l : Launch} {e : Env} {s : State} {m : MethodId} {below : List Frame} {meth : Method} {c : Code} {b L : Nat} {xs : Nat → Int32} {D : va_G} {tA : Nat → ClassId} {ex : List Nat} {sc : List XV}
set_option maxRecDepth 4000 in
theorem ycm_19 {ks : List Nat} {w : XW} (hW : yW ks w) {a0 a1 : Int} (h0 : yrg a0) (h1 : yrg a1) : ∃ z w', XMet l D vwCl (tysX tA) tA ex (xSTX ++ [sc]) xSV xNW xNF xTs xm19 [.inr (.inr (1, 0)), .inl (a0, a0), .inl (a1, a1)] w (some (.inl (z, z))) w' ∧ yW ks w' ∧ yca_19 a0 a1 z := by
  obtain ⟨ro, w', gs, m1, m2, A, hA, a1', a2'⟩ := ytot (as := [.inr (.inr (1, 0)), .inl (a0, a0), .inl (a1, a1)]) (yall (l := l) (D := D) (tA := tA) (ex := ex) (sc := sc) 19 xm19 _ rfl (yct_of (L := yD505) (i := 491) (d := yD_14) rfl)) (by decide +kernel) ⟨_, _, rfl, Or.inr ⟨0, rfl, hW.2.1⟩, _, _, rfl, ytop_in h0, _, _, rfl, ytop_in h1, rfl⟩ hW.1
  obtain ⟨z, hz, hc⟩ := ycb_19 (a0 := a0) (a1 := a1) (n1 := rfl) (n2 := rfl) hA a1' a2'
  subst hz
  have hq := hW.app (tl := []) (w' := w') (fun k hk => by cases hk) (by rw [List.append_nil]; exact m2)
  rw [List.append_nil] at hq
  exact ⟨z, w', m1, hq, hc⟩
set_option maxRecDepth 4000 in
theorem ycm_169 {ks : List Nat} {w : XW} (hW : yW ks w) {a0 a1 : Int} (h0 : yrg a0) (h1 : yrg a1) : ∃ z w', XMet l D vwCl (tysX tA) tA ex (xSTX ++ [sc]) xSV xNW xNF xTs xm169 [.inr (.inr (1, 57)), .inl (a0, a0), .inl (a1, a1)] w (some (.inl (z, z))) w' ∧ yW ks w' ∧ yca_169 a0 a1 z := by
  obtain ⟨ro, w', gs, m1, m2, A, hA, a1', a2'⟩ := ytot (as := [.inr (.inr (1, 57)), .inl (a0, a0), .inl (a1, a1)]) (yall (l := l) (D := D) (tA := tA) (ex := ex) (sc := sc) 169 xm169 _ rfl (yct_of (L := yD505) (i := 216) (d := yD_289) rfl)) (by decide +kernel) ⟨_, _, rfl, Or.inr ⟨57, rfl, hW.2.2.1⟩, _, _, rfl, ytop_in h0, _, _, rfl, ytop_in h1, rfl⟩ hW.1
  obtain ⟨z, hz, hc⟩ := ycb_169 (a0 := a0) (a1 := a1) (n1 := rfl) (n2 := rfl) hA a1' a2'
  subst hz
  have hq := hW.app (tl := []) (w' := w') (fun k hk => by cases hk) (by rw [List.append_nil]; exact m2)
  rw [List.append_nil] at hq
  exact ⟨z, w', m1, hq, hc⟩
theorem yop_5 (C0 : lw_At p s m meth c b L xs) (hE : XEnv D vwCl (tysX tA) ex (xSTX ++ [sc]) xSV xNW xNF (fun q : Nat => s.heap.size ≤ q) s) (hsc : ∀ j : Nat, j < L → sc[j]? = some (.inl (yv xs j, yv xs j))) (hl : sc.length = L) (hL : L ≤ 3072) {i : Nat} (hi : i + 5 < L) {ks : List Nat} {w : XW} {k n : Nat} (hW : yW ks w) (hk : k + 3 ≤ 600000) (hn : n + 19 ≤ 7302250) (hK : ∀ (tl : List Nat) (w' : XW) (k' n' : Nat), (∀ q ∈ tl, yfresh q = true) → yW (ks ++ tl) w' → k' ≤ k + 3 → n' ≤ n + 19 → XLS p l e s m b below meth c D tA ex (.inl (1683, yLV i, [], w', k', n'))) : XLS p l e s m b below meth c D tA ex (.inl (421, yLV i, [], w, k, n)) := by
  refine yl_at C0 hE (S' := (422, yLV i, [.inr (.inr (1, 0))], w, k, n)) (q := _) rfl rfl ?_
  refine yl_arg C0 hE hsc hl (j := 1) (by decide) (by omega) hL rfl rfl rfl rfl rfl ?_
  refine yl_arg C0 hE hsc hl (j := 2) (by decide) (by omega) hL rfl rfl rfl rfl rfl ?_
  obtain ⟨z1, w1, m1, hW1, hc1⟩ := ycm_19 (l := l) (D := D) (tA := tA) (ex := ex) (sc := sc) hW (yv_rg (xs := xs) (i + 1)) (yv_rg (xs := xs) (i + 2))
  refine yl_call C0 hE (N := xm19) rfl rfl m1 (Nat.le_of_ble_eq_true rfl) (Nat.le_of_ble_eq_true rfl) (Nat.le_of_ble_eq_true rfl) (Nat.le_of_ble_eq_true rfl) (by show k + 0 ≤ 600000; omega) (by show n + 0 ≤ 7302250; omega) (yrec_0 hW) ?_
  show XLS p l e s m b below meth c D tA ex (.inl (435, yLV i, [.inl (z1, z1)], w1, k + 0, n + 0))
  refine yl_at C0 hE (S' := (436, yLV i, [.inr (.inr (1, 57)), .inl (z1, z1)], w1, k + 0, n + 0)) (q := _) rfl rfl ?_
  refine yl_arg C0 hE hsc hl (j := 1) (by decide) (by omega) hL rfl rfl rfl rfl rfl ?_
  refine yl_arg C0 hE hsc hl (j := 2) (by decide) (by omega) hL rfl rfl rfl rfl rfl ?_
  obtain ⟨z2, w2, m2, hW2, hc2⟩ := ycm_169 (l := l) (D := D) (tA := tA) (ex := ex) (sc := sc) hW1 (yv_rg (xs := xs) (i + 1)) (yv_rg (xs := xs) (i + 2))
  have hz := ycs hc1 hc2
  subst hz
  refine yl_call C0 hE (N := xm169) rfl rfl m2 (Nat.le_of_ble_eq_true rfl) (Nat.le_of_ble_eq_true rfl) (Nat.le_of_ble_eq_true rfl) (Nat.le_of_ble_eq_true rfl) (by show k + 0 + 0 ≤ 600000; omega) (by show n + 0 + 0 ≤ 7302250; omega) (yrec_57 hW1) ?_
  show XLS p l e s m b below meth c D tA ex (.inl (449, yLV i, [.inl (z1, z1), .inl (z1, z1)], w2, k + 0 + 0, n + 0 + 0))
  refine yl_at C0 hE (S' := (1683, yLV i, [], w2, k + 0 + 0, n + 0 + 0)) (q := _) rfl (sx_icmp (o := true) (xceq_of.trans (by simp))) ?_
  exact hK [] w2 _ _ (fun q hq => by cases hq) (by rw [List.append_nil]; exact hW2) (by omega) (by omega)
end YL
