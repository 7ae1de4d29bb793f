theorem ylkL_in {j : Nat} {C : YC} (h : C ∈ yct yB ylkL j) : C ∈ yct yB yD505 j := by
  have hm : ∀ d ∈ ylkL, d ∈ yD505 := fun d hd => by
    unfold ylkL at hd
    simp only [List.mem_cons, List.mem_nil_iff, or_false] at hd
    rcases hd with rfl | rfl
    · exact List.mem_of_getElem? (i := 473) rfl
    · exact List.mem_of_getElem? (i := 462) rfl
  rcases List.mem_append.mp h with h | h
  · exact List.mem_append_left _ h
  · obtain ⟨d, hd, e⟩ := List.mem_map.mp h
    obtain ⟨m1, m2⟩ := List.mem_filter.mp hd
    exact List.mem_append_right _ (List.mem_map.mpr ⟨d, List.mem_filter.mpr ⟨hm d m1, m2⟩, e⟩)
theorem ysyL_in {j : Nat} {C : YC} (h : C ∈ yct yB ysyL j) : C ∈ yct yB yD505 j := by
  have hm : ∀ d ∈ ysyL, d ∈ yD505 := fun d hd => by
    unfold ysyL at hd
    simp only [List.mem_cons, List.mem_nil_iff, or_false] at hd
    rcases hd with rfl | rfl | rfl | rfl
    · exact List.mem_of_getElem? (i := 473) rfl
    · exact List.mem_of_getElem? (i := 462) rfl
    · exact List.mem_of_getElem? (i := 2) rfl
    · exact List.mem_of_getElem? (i := 1) rfl
  rcases List.mem_append.mp h with h | h
  · exact List.mem_append_left _ h
  · obtain ⟨d, hd, e⟩ := List.mem_map.mp h
    obtain ⟨m1, m2⟩ := List.mem_filter.mp hd
    exact List.mem_append_right _ (List.mem_map.mpr ⟨d, List.mem_filter.mpr ⟨hm d m1, m2⟩, e⟩)
/-! ===== the law: steps, arguments, calls ===== -/
section YL
variable {p : Program} {l : Launch} {e : Env} {s : State} {m : MethodId} {below : List Frame} {meth : Method} {c : Code} {b L : Nat} {xs : Nat → Int32} {D : va_G} {tA : Nat → ClassId} {ex : List Nat} {sc : List XV}
abbrev yLV (i : Nat) : XL := [(3, .inl ((i : Int), (i : Int))), (2, .inr (.inr (1, 57))), (1, .inr (.inr (1, 0))), (0, .inr (.inr (2, 5)))]
abbrev yv (xs : Nat → Int32) (i : Nat) : Int := (xs i).toInt
theorem yv_rg (i : Nat) : yrg (yv xs i) := x_rng _
theorem yl_at (C0 : lw_At p s m meth c b L xs) (hE : XEnv D vwCl (tysX tA) ex (xSTX ++ [sc]) xSV xNW xNF (fun q : Nat => s.heap.size ≤ q) s) {pc : Nat} {lv : XL} {st : List XV} {w : XW} {k n : Nat} {q : XE} {S' : XS} (hf : xfetch (xm_t xmL) pc = some q) (hi : xins (xcf 20 sc) xMT xFT xFD xTY xTC (xSTX ++ [sc]) xmL q.1 q.2.1 q.2.2.1 q.2.2.2 pc lv st w k n = some (.inl S')) (h : XLS p l e s m b below meth c D tA ex (.inl S')) : XLS p l e s m b below meth c D tA ex (.inl (pc, lv, st, w, k, n)) := xlaw_step (fu := 20) C0 hE _ _ ((xstep_at hf).trans hi) h
theorem yl_call (C0 : lw_At p s m meth c b L xs) (hE : XEnv D vwCl (tysX tA) ex (xSTX ++ [sc]) xSV xNW xNF (fun q : Nat => s.heap.size ≤ q) s) {pc idx a d : Nat} {z : Int} {lv : XL} {st : List XV} {w : XW} {k n : Nat} {N : XM} {ro : Option XV} {w' : XW} (hf : xfetch (xm_t xmL) pc = some (.invokevirtual idx, a, d, z)) (hN : xMT a = some N) (hM : XMet l D vwCl (tysX tA) tA ex (xSTX ++ [sc]) xSV xNW xNF xTs N (st.take d).reverse w ro w') (h1 : d ≤ st.length) (h2 : ((st.drop d).map xcat).sum ≤ 8) (h3 : xm_f N + 1 ≤ xm_f xmL) (h4 : 8 + (xm_l N + 11) + xm_o N ≤ xm_o xmL) (h5 : k + xm_k N ≤ xm_k xmL) (h6 : n + xm_n N ≤ xm_n xmL) (h7 : xrecv w (xm_i N) (st.take d).reverse = true) (h : XLS p l e s m b below meth c D tA ex (.inl (pc + 3, lv, ro.toList ++ st.drop d, w', k + xm_k N, n + xm_n N))) : XLS p l e s m b below meth c D tA ex (.inl (pc, lv, st, w, k, n)) := by
  refine xlaw_call C0 hE hf hN hM ?_ h
  unfold xh_call
  dsimp only
  rw [if_pos ⟨h1, h2, h3, h4, h5, h6, by rw [h7]; rfl⟩]
theorem yl_arg (C0 : lw_At p s m meth c b L xs) (hE : XEnv D vwCl (tysX tA) ex (xSTX ++ [sc]) xSV xNW xNF (fun q : Nat => s.heap.size ≤ q) s) (hsc : ∀ j : Nat, j < L → sc[j]? = some (.inl (yv xs j, yv xs j))) (hl : sc.length = L) {pc i j : Nat} {st : List XV} {w : XW} {k n : Nat} (hj : j ≤ 5) (hi : i + j < L) (hL : L ≤ 3072) (f1 : xfetch (xm_t xmL) pc = some (.aload_n 0, 0, 0, 0)) (f2 : xfetch (xm_t xmL) (pc + 1) = some (.iload_n 3, 0, 0, 0)) (f3 : xfetch (xm_t xmL) (pc + 2) = some (.iconst (j : Int), 0, 0, (j : Int))) (f4 : xfetch (xm_t xmL) (pc + 3) = some (.iadd, 0, 0, 0)) (f5 : xfetch (xm_t xmL) (pc + 4) = some (.iaload, 0, 0, 0)) (h : XLS p l e s m b below meth c D tA ex (.inl (pc + 5, yLV i, .inl (yv xs (i + j), yv xs (i + j)) :: st, w, k, n))) : XLS p l e s m b below meth c D tA ex (.inl (pc, yLV i, st, w, k, n)) := by
  refine yl_at C0 hE (S' := (pc + 1, yLV i, .inr (.inr (2, 5)) :: st, w, k, n)) f1 rfl ?_
  refine yl_at C0 hE (S' := (pc + 2, yLV i, .inl ((i : Int), (i : Int)) :: .inr (.inr (2, 5)) :: st, w, k, n)) f2 rfl ?_
  refine yl_at C0 hE (S' := (pc + 3, yLV i, .inl ((j : Int), (j : Int)) :: .inl ((i : Int), (i : Int)) :: .inr (.inr (2, 5)) :: st, w, k, n)) f3 rfl ?_
  refine yl_at C0 hE (S' := (pc + 4, yLV i, .inl ((i : Int) + (j : Int), (i : Int) + (j : Int)) :: .inr (.inr (2, 5)) :: st, w, k, n)) f4 (sx_iadd (by omega)) ?_
  refine yl_at C0 hE (S' := (pc + 5, yLV i, .inl (yv xs (i + j), yv xs (i + j)) :: st, w, k, n)) f5 ?_ h
  have hr : xread sc ((i : Int) + (j : Int), (i : Int) + (j : Int)) = some (.inl (yv xs (i + j), yv xs (i + j))) := by
    unfold xread
    rw [if_pos ⟨by show (0 : Int) ≤ (i : Int) + (j : Int); omega, by show (i : Int) + (j : Int) < (sc.length : Int); omega⟩, if_pos rfl]
    show sc[((i : Int) + (j : Int)).toNat]? = _
    rw [show ((i : Int) + (j : Int)).toNat = i + j by omega]
    exact hsc _ hi
  show xh_ald 0 0 (xSTX ++ [sc]) (pc + 4) _ (.inl ((i : Int) + (j : Int), (i : Int) + (j : Int)) :: .inr (.inr (2, 5)) :: st) w k n = _
  unfold xh_ald
  dsimp only
  rw [show xarr w (xSTX ++ [sc]) (2, 5) = some (0, sc) from rfl]
  dsimp only
  rw [if_pos (Or.inl rfl), hr]
  rfl
/-- what the law knows of its two objects' world -/
def yW (ks : List Nat) (w : XW) : Prop := yheap yKD ks w ∧ ks[0]? = some 0 ∧ ks[57]? = some 30 ∧ (∀ p p' : Nat, ks[p]? = some 16 → ks[p']? = some 16 → p = p') ∧ ∀ p p' : Nat, ks[p]? = some 20 → ks[p']? = some 20 → p = p'
theorem yW.app {ks tl : List Nat} {w w' : XW} (h : yW ks w) (ht : ∀ k ∈ tl, yfresh k = true) (h' : yheap yKD (ks ++ tl) w') : yW (ks ++ tl) w' := by
  obtain ⟨_, h0, h57, h16, h20⟩ := h
  have old : ∀ (i k : Nat), ks[i]? = some k → (ks ++ tl)[i]? = some k := fun i k hi => by
    rw [List.getElem?_append_left (List.getElem?_eq_some_iff.mp hi).1]
    exact hi
  have back : ∀ (i k : Nat), yfresh k = false → (ks ++ tl)[i]? = some k → ks[i]? = some k := fun i k hk hi => by
    by_cases hlt : i < ks.length
    · rw [List.getElem?_append_left hlt] at hi
      exact hi
    · rw [List.getElem?_append_right (by omega)] at hi
      rw [ht k (List.mem_of_getElem? hi)] at hk
      cases hk
  exact ⟨h', old _ _ h0, old _ _ h57, fun p p' a1 a2 => h16 p p' (back _ _ rfl a1) (back _ _ rfl a2), fun p p' a1 a2 => h20 p p' (back _ _ rfl a1) (back _ _ rfl a2)⟩
/-- a call's outcome -/
def yOut (l : Launch) (D : va_G) (tA : Nat → ClassId) (ex : List Nat) (sc : List XV) (N : XM) (as : List XV) (ks : List Nat) (w : XW) (lng : Bool) : Prop := ∃ (ro : Option XV) (w' : XW) (tl : List Nat), XMet l D vwCl (tysX tA) tA ex (xSTX ++ [sc]) xSV xNW xNF xTs N as w ro w' ∧ yW (ks ++ tl) w' ∧ (∀ k ∈ tl, yfresh k = true) ∧ ∃ x, ro = some x ∧ xkd x = (bif lng then 1 else 0)
theorem yisr_ok {lng : Bool} {A : YA} (h : yisr lng A = true) {ks : List Nat} {nu : Nat → Int} {ro : Option XV} (ha : yans ks nu A.1 ro) : ∃ x, ro = some x ∧ xkd x = (bif lng then 1 else 0) := by
  unfold yisr at h
  split at h
  · rename_i e he
    rw [he] at ha
    obtain ⟨x, h1, h2⟩ := ha
    have h := of_decide_eq_true h
    refine ⟨x, h1, ?_⟩
    rw [yein_kd h2]
    obtain ⟨t, a, b⟩ := e
    dsimp only at h
    subst h
    cases lng with
    | true =>
      show ykd (ysv (2, a, b) 0) = 1
      unfold ysv
      rw [if_neg (show ¬ (2 : Nat) = 0 by decide), if_pos rfl]
      split <;> rfl
    | false =>
      show ykd (ysv (0, a, b) 0) = 0
      unfold ysv
      rw [if_pos rfl]
      split <;> rfl
  · rename_i x he
    rw [he] at ha
    cases lng with
    | true => cases h
    | false => exact ⟨_, ha.1, rfl⟩
  · cases h
theorem yout {N : XM} {C : YC} {lng : Bool} (hC : yco l D tA ex sc N C) (hf : (yfree C && C.2.2.2.all (yisr lng)) = true) {ks : List Nat} {as : List XV} {w : XW} (ha : yargs ks C.1 as) (hW : yW ks w) : yOut l D tA ex sc N as ks w lng := by
  rw [Bool.and_eq_true] at hf
  obtain ⟨ro, w', gs, m1, m2, A, hA, a1, _⟩ := ytot hC hf.1 ha hW.1
  have e : ks ++ [] = ks := List.append_nil _
  refine ⟨ro, w', [], m1, ?_, (fun k hk => by cases hk), yisr_ok (List.all_eq_true.mp hf.2 A hA) a1⟩
  exact hW.app (fun k hk => by cases hk) (by rw [e]; exact m2)
theorem youtA {N : XM} {ks : List Nat} {as : List XV} {w : XW} {mk mn : Nat} (h : ∃ q, XMet l D vwCl (tysX tA) tA ex (xSTX ++ [sc]) xSV xNW xNF xTs N as w q.1 q.2.1 ∧ ypA ks mk mn q) (hW : yW ks w) : yOut l D tA ex sc N as ks w false := by
  obtain ⟨q, m1, _, _, ⟨z, hz, _⟩, tl, ht, hh⟩ := h
  exact ⟨q.1, q.2.1, tl, m1, hW.app ht hh, ht, _, hz, rfl⟩
set_option maxRecDepth 4000 in
theorem ym_8 {ks : List Nat} {w : XW} (hW : yW ks w) {a0 a1 : Int} (h0 : yrg a0) (h1 : yrg a1) : yOut l D tA ex sc xm8 [.inr (.inr (1, 0)), .inl (a0, a0), .inl (a1, a1)] ks w false := by
  exact yout (yall 8 xm8 _ rfl (yct_of (L := yD505) (i := 501) (d := yD_4) rfl)) (by decide +kernel) ⟨_, _, rfl, Or.inr ⟨0, rfl, hW.2.1⟩, _, _, rfl, ytop_in h0, _, _, rfl, ytop_in h1, rfl⟩ hW
set_option maxRecDepth 4000 in
theorem ym_12 {ks : List Nat} {w : XW} (hW : yW ks w) {a0 a1 a2 : Int} (h0 : yrg a0) (h1 : yrg a1) (h2 : yrg a2) : yOut l D tA ex sc xm12 [.inr (.inr (1, 0)), .inl (a0, a0), .inl (a1, a1), .inl (a2, a2)] ks w false := by
  exact yout (yall 12 xm12 _ rfl (yct_of (L := yD505) (i := 497) (d := yD_8) rfl)) (by decide +kernel) ⟨_, _, rfl, Or.inr ⟨0, rfl, hW.2.1⟩, _, _, rfl, ytop_in h0, _, _, rfl, ytop_in h1, _, _, rfl, ytop_in h2, rfl⟩ hW
set_option maxRecDepth 4000 in
theorem ym_16 {ks : List Nat} {w : XW} (hW : yW ks w) {a0 : Int} (h0 : yrg a0) : yOut l D tA ex sc xm16 [.inr (.inr (1, 0)), .inl (a0, a0)] ks w false := by
  exact yout (yall 16 xm16 _ rfl (yct_of (L := yD505) (i := 496) (d := yD_9) rfl)) (by decide +kernel) ⟨_, _, rfl, Or.inr ⟨0, rfl, hW.2.1⟩, _, _, rfl, ytop_in h0, rfl⟩ hW
set_option maxRecDepth 4000 in
theorem ym_17 {ks : List Nat} {w : XW} (hW : yW ks w) {a0 a1 a2 a3 a4 : Int} (h0 : yrg a0) (h1 : yrg a1) (h2 : yrg a2) (h3 : yrg a3) (h4 : yrg a4) : yOut l D tA ex sc xm17 [.inr (.inr (1, 0)), .inl (a0, a0), .inl (a1, a1), .inl (a2, a2), .inl (a3, a3), .inl (a4, a4)] ks w false := by
  exact yout (yall 17 xm17 _ rfl (yct_of (L := yD505) (i := 495) (d := yD_10) rfl)) (by decide +kernel) ⟨_, _, rfl, Or.inr ⟨0, rfl, hW.2.1⟩, _, _, rfl, ytop_in h0, _, _, rfl, ytop_in h1, _, _, rfl, ytop_in h2, _, _, rfl, ytop_in h3, _, _, rfl, ytop_in h4, rfl⟩ hW
set_option maxRecDepth 4000 in
theorem ym_18 {ks : List Nat} {w : XW} (hW : yW ks w) {a0 : Int} (h0 : yrg a0) : yOut l D tA ex sc xm18 [.inr (.inr (1, 0)), .inl (a0, a0)] ks w false := by
  exact yout (yall 18 xm18 _ rfl (yct_of (L := yD505) (i := 494) (d := yD_11) rfl)) (by decide +kernel) ⟨_, _, rfl, Or.inr ⟨0, rfl, hW.2.1⟩, _, _, rfl, ytop_in h0, rfl⟩ hW
set_option maxRecDepth 4000 in
theorem ym_19 {ks : List Nat} {w : XW} (hW : yW ks w) {a0 a1 : Int} (h0 : yrg a0) (h1 : yrg a1) : yOut l D tA ex sc xm19 [.inr (.inr (1, 0)), .inl (a0, a0), .inl (a1, a1)] ks w false := by
  exact yout (yall 19 xm19 _ rfl (yct_of (L := yD505) (i := 491) (d := yD_14) rfl)) (by decide +kernel) ⟨_, _, rfl, Or.inr ⟨0, rfl, hW.2.1⟩, _, _, rfl, ytop_in h0, _, _, rfl, ytop_in h1, rfl⟩ hW
set_option maxRecDepth 4000 in
theorem ym_21 {ks : List Nat} {w : XW} (hW : yW ks w) {a0 a1 a2 : Int} (h0 : yrg a0) (h1 : yrg a1) (h2 : yrg a2) : yOut l D tA ex sc xm21 [.inr (.inr (1, 0)), .inl (a0, a0), .inl (a1, a1), .inl (a2, a2)] ks w false := by
  exact yout (yall 21 xm21 _ rfl (yct_of (L := yD505) (i := 490) (d := yD_15) rfl)) (by decide +kernel) ⟨_, _, rfl, Or.inr ⟨0, rfl, hW.2.1⟩, _, _, rfl, ytop_in h0, _, _, rfl, ytop_in h1, _, _, rfl, ytop_in h2, rfl⟩ hW
set_option maxRecDepth 4000 in
theorem ym_22 {ks : List Nat} {w : XW} (hW : yW ks w) {a0 a1 : Int} (h0 : yrg a0) (h1 : 0 ≤ a1 ∧ a1 ≤ 1) : yOut l D tA ex sc xm22 [.inr (.inr (1, 0)), .inl (a0, a0), .inl (a1, a1)] ks w false := by
  exact yout (yall 22 xm22 _ rfl (yct_of (L := yD505) (i := 484) (d := yD_21) rfl)) (by decide +kernel) ⟨_, _, rfl, Or.inr ⟨0, rfl, hW.2.1⟩, _, _, rfl, ytop_in h0, _, _, rfl, ⟨a1, rfl, Int.le_trans (by decide) h1.1, Int.le_trans h1.2 (by decide), by omega, by omega⟩, rfl⟩ hW
set_option maxRecDepth 4000 in
theorem ym_28 {ks : List Nat} {w : XW} (hW : yW ks w) {a0 a1 a2 a3 : Int} (h0 : yrg a0) (h1 : yrg a1) (h2 : yrg a2) (h3 : yrg a3) : yOut l D tA ex sc xm28 [.inr (.inr (1, 0)), .inl (a0, a0), .inl (a1, a1), .inl (a2, a2), .inl (a3, a3)] ks w false := by
  exact yout (yall 28 xm28 _ rfl (yct_of (L := yD505) (i := 480) (d := yD_25) rfl)) (by decide +kernel) ⟨_, _, rfl, Or.inr ⟨0, rfl, hW.2.1⟩, _, _, rfl, ytop_in h0, _, _, rfl, ytop_in h1, _, _, rfl, ytop_in h2, _, _, rfl, ytop_in h3, rfl⟩ hW
set_option maxRecDepth 4000 in
theorem ym_32 {ks : List Nat} {w : XW} (hW : yW ks w) {a0 a1 : Int} (h0 : yrg a0) (h1 : yrg a1) : yOut l D tA ex sc xm32 [.inr (.inr (1, 0)), .inl (a0, a0), .inl (a1, a1)] ks w false := by
  exact yout (yall 32 xm32 _ rfl (yct_of (L := yD505) (i := 478) (d := yD_27) rfl)) (by decide +kernel) ⟨_, _, rfl, Or.inr ⟨0, rfl, hW.2.1⟩, _, _, rfl, ytop_in h0, _, _, rfl, ytop_in h1, rfl⟩ hW
set_option maxRecDepth 4000 in
theorem ym_34 {ks : List Nat} {w : XW} (hW : yW ks w) {a0 a1 : Int} (h0 : yrg a0) (h1 : yrg a1) : yOut l D tA ex sc xm34 [.inr (.inr (1, 0)), .inl (a0, a0), .inl (a1, a1)] ks w false := by
  exact yout (yall 34 xm34 _ rfl (yct_of (L := yD505) (i := 477) (d := yD_28) rfl)) (by decide +kernel) ⟨_, _, rfl, Or.inr ⟨0, rfl, hW.2.1⟩, _, _, rfl, ytop_in h0, _, _, rfl, ytop_in h1, rfl⟩ hW
set_option maxRecDepth 4000 in
theorem ym_35 {ks : List Nat} {w : XW} (hW : yW ks w) {a0 : Int} (h0 : yrg a0) : yOut l D tA ex sc xm35 [.inr (.inr (1, 0)), .inl (a0, a0)] ks w false := by
  exact yout (yall 35 xm35 _ rfl (yct_of (L := yD505) (i := 476) (d := yD_29) rfl)) (by decide +kernel) ⟨_, _, rfl, Or.inr ⟨0, rfl, hW.2.1⟩, _, _, rfl, ytop_in h0, rfl⟩ hW
set_option maxRecDepth 4000 in
theorem ym_36 {ks : List Nat} {w : XW} (hW : yW ks w) {a0 : Int} (h0 : yrg a0) : yOut l D tA ex sc xm36 [.inr (.inr (1, 0)), .inl (a0, a0)] ks w false := by
  exact yout (yall 36 xm36 _ rfl (yct_of (L := yD505) (i := 475) (d := yD_30) rfl)) (by decide +kernel) ⟨_, _, rfl, Or.inr ⟨0, rfl, hW.2.1⟩, _, _, rfl, ytop_in h0, rfl⟩ hW
set_option maxRecDepth 4000 in
theorem ym_37 {ks : List Nat} {w : XW} (hW : yW ks w) {a0 a1 a2 a3 : Int} (h0 : yrg a0) (h1 : yrg a1) (h2 : yrg a2) (h3 : yrg a3) : yOut l D tA ex sc xm37 [.inr (.inr (1, 0)), .inl (a0, a0), .inl (a1, a1), .inl (a2, a2), .inl (a3, a3)] ks w false := by
  exact yout (yall 37 xm37 _ rfl (yct_of (L := yD505) (i := 471) (d := yD_34) rfl)) (by decide +kernel) ⟨_, _, rfl, Or.inr ⟨0, rfl, hW.2.1⟩, _, _, rfl, ytop_in h0, _, _, rfl, ytop_in h1, _, _, rfl, ytop_in h2, _, _, rfl, ytop_in h3, rfl⟩ hW
set_option maxRecDepth 4000 in
theorem ym_41 {ks : List Nat} {w : XW} (hW : yW ks w) {a0 a1 : Int} (h0 : yrg a0) (h1 : yrg a1) : yOut l D tA ex sc xm41 [.inr (.inr (1, 0)), .inl (a0, a0), .inl (a1, a1)] ks w false := by
  exact yout (yall 41 xm41 _ rfl (yct_of (L := yD505) (i := 467) (d := yD_38) rfl)) (by decide +kernel) ⟨_, _, rfl, Or.inr ⟨0, rfl, hW.2.1⟩, _, _, rfl, ytop_in h0, _, _, rfl, ytop_in h1, rfl⟩ hW
set_option maxRecDepth 4000 in
theorem ym_45 {ks : List Nat} {w : XW} (hW : yW ks w) {a0 a1 : Int} (h0 : yrg a0) (h1 : yrg a1) : yOut l D tA ex sc xm45 [.inr (.inr (1, 0)), .inl (a0, a0), .inl (a1, a1)] ks w false := by
  exact yout (yall 45 xm45 _ rfl (yct_of (L := yD505) (i := 465) (d := yD_40) rfl)) (by decide +kernel) ⟨_, _, rfl, Or.inr ⟨0, rfl, hW.2.1⟩, _, _, rfl, ytop_in h0, _, _, rfl, ytop_in h1, rfl⟩ hW
set_option maxRecDepth 4000 in
theorem ym_47 {ks : List Nat} {w : XW} (hW : yW ks w) {a0 : Int} (h0 : yrg a0) : yOut l D tA ex sc xm47 [.inr (.inr (1, 0)), .inl (a0, a0)] ks w false := by
  exact yout (yall 47 xm47 _ rfl (yct_of (L := yD505) (i := 463) (d := yD_42) rfl)) (by decide +kernel) ⟨_, _, rfl, Or.inr ⟨0, rfl, hW.2.1⟩, _, _, rfl, ytop_in h0, rfl⟩ hW
set_option maxRecDepth 4000 in
theorem ym_49 {ks : List Nat} {w : XW} (hW : yW ks w) {a0 a1 : Int} (h0 : yrg a0) (h1 : yrg a1) : yOut l D tA ex sc xm49 [.inr (.inr (1, 0)), .inl (a0, a0), .inl (a1, a1)] ks w false := by
  exact yout (yall 49 xm49 _ rfl (yct_of (L := yD505) (i := 461) (d := yD_44) rfl)) (by decide +kernel) ⟨_, _, rfl, Or.inr ⟨0, rfl, hW.2.1⟩, _, _, rfl, ytop_in h0, _, _, rfl, ytop_in h1, rfl⟩ hW
set_option maxRecDepth 4000 in
theorem ym_51 {ks : List Nat} {w : XW} (hW : yW ks w)  : yOut l D tA ex sc xm51 [.inr (.inr (1, 0))] ks w false := by
  exact yout (yall 51 xm51 _ rfl (yct_of (L := yD505) (i := 439) (d := yD_66) rfl)) (by decide +kernel) ⟨_, _, rfl, Or.inr ⟨0, rfl, hW.2.1⟩, rfl⟩ hW
set_option maxRecDepth 4000 in
theorem ym_72 {ks : List Nat} {w : XW} (hW : yW ks w) {a0 : Int} (h0 : yrg a0) : yOut l D tA ex sc xm72 [.inr (.inr (1, 0)), .inl (a0, a0)] ks w false := by
  exact youtA (ylook (fun j N C hN hC => yall j N C hN (ylkL_in hC)) hW.1 hW.2.2.2.2 hW.2.1 h0) hW
set_option maxRecDepth 4000 in
theorem ym_74 {ks : List Nat} {w : XW} (hW : yW ks w) {a0 a1 : Int} (h0 : yrg a0) (h1 : yrg a1) : yOut l D tA ex sc xm74 [.inr (.inr (1, 0)), .inl (a0, a0), .inl (a1, a1)] ks w false := by
  exact yout (yall 74 xm74 _ rfl (yct_of (L := yD505) (i := 437) (d := yD_68) rfl)) (by decide +kernel) ⟨_, _, rfl, Or.inr ⟨0, rfl, hW.2.1⟩, _, _, rfl, ytop_in h0, _, _, rfl, ytop_in h1, rfl⟩ hW
set_option maxRecDepth 4000 in
theorem ym_76 {ks : List Nat} {w : XW} (hW : yW ks w) {a0 : Int} (h0 : yrg a0) : yOut l D tA ex sc xm76 [.inr (.inr (1, 0)), .inl (a0, a0)] ks w false := by
  exact yout (yall 76 xm76 _ rfl (yct_of (L := yD505) (i := 435) (d := yD_70) rfl)) (by decide +kernel) ⟨_, _, rfl, Or.inr ⟨0, rfl, hW.2.1⟩, _, _, rfl, ytop_in h0, rfl⟩ hW
set_option maxRecDepth 4000 in
theorem ym_78 {ks : List Nat} {w : XW} (hW : yW ks w) {a0 : Int} (h0 : yrg a0) : yOut l D tA ex sc xm78 [.inr (.inr (1, 0)), .inl (a0, a0)] ks w false := by
  exact yout (yall 78 xm78 _ rfl (yct_of (L := yD505) (i := 434) (d := yD_71) rfl)) (by decide +kernel) ⟨_, _, rfl, Or.inr ⟨0, rfl, hW.2.1⟩, _, _, rfl, ytop_in h0, rfl⟩ hW
set_option maxRecDepth 4000 in
theorem ym_79 {ks : List Nat} {w : XW} (hW : yW ks w) {a0 a1 : Int} (h0 : yrg a0) (h1 : yrg a1) : yOut l D tA ex sc xm79 [.inr (.inr (1, 0)), .inl (a0, a0), .inl (a1, a1)] ks w false := by
  exact yout (yall 79 xm79 _ rfl (yct_of (L := yD505) (i := 431) (d := yD_74) rfl)) (by decide +kernel) ⟨_, _, rfl, Or.inr ⟨0, rfl, hW.2.1⟩, _, _, rfl, ytop_in h0, _, _, rfl, ytop_in h1, rfl⟩ hW
set_option maxRecDepth 4000 in
theorem ym_82 {ks : List Nat} {w : XW} (hW : yW ks w) {a0 a1 a2 : Int} (h0 : yrg a0) (h1 : yrg a1) (h2 : yrg a2) : yOut l D tA ex sc xm82 [.inr (.inr (1, 0)), .inl (a0, a0), .inl (a1, a1), .inl (a2, a2)] ks w false := by
  exact youtA (ysay (fun j N C hN hC => yall j N C hN (ysyL_in hC)) (fun N hN => yall 86 N _ hN (yct_of (L := yD505) (i := 0) (d := yD_505) rfl)) hW.1 hW.2.2.2.1 hW.2.1 h0 h1 h2) hW
set_option maxRecDepth 4000 in
theorem ym_87 {ks : List Nat} {w : XW} (hW : yW ks w) {a0 a1 : Int} (h0 : yrg a0) (h1 : yrg a1) : yOut l D tA ex sc xm87 [.inr (.inr (1, 0)), .inl (a0, a0), .inl (a1, a1)] ks w false := by
  exact yout (yall 87 xm87 _ rfl (yct_of (L := yD505) (i := 428) (d := yD_77) rfl)) (by decide +kernel) ⟨_, _, rfl, Or.inr ⟨0, rfl, hW.2.1⟩, _, _, rfl, ytop_in h0, _, _, rfl, ytop_in h1, rfl⟩ hW
set_option maxRecDepth 4000 in
theorem ym_90 {ks : List Nat} {w : XW} (hW : yW ks w) {a0 a1 : Int} (h0 : yrg a0) (h1 : yrg a1) : yOut l D tA ex sc xm90 [.inr (.inr (1, 0)), .inl (a0, a0), .inl (a1, a1)] ks w false := by
  exact yout (yall 90 xm90 _ rfl (yct_of (L := yD505) (i := 425) (d := yD_80) rfl)) (by decide +kernel) ⟨_, _, rfl, Or.inr ⟨0, rfl, hW.2.1⟩, _, _, rfl, ytop_in h0, _, _, rfl, ytop_in h1, rfl⟩ hW
set_option maxRecDepth 4000 in
theorem ym_93 {ks : List Nat} {w : XW} (hW : yW ks w) {a0 a1 : Int} (h0 : yrg a0) (h1 : yrg a1) : yOut l D tA ex sc xm93 [.inr (.inr (1, 0)), .inl (a0, a0), .inl (a1, a1)] ks w false := by
  exact yout (yall 93 xm93 _ rfl (yct_of (L := yD505) (i := 424) (d := yD_81) rfl)) (by decide +kernel) ⟨_, _, rfl, Or.inr ⟨0, rfl, hW.2.1⟩, _, _, rfl, ytop_in h0, _, _, rfl, ytop_in h1, rfl⟩ hW
set_option maxRecDepth 4000 in
theorem ym_94 {ks : List Nat} {w : XW} (hW : yW ks w) {a0 a1 a2 a3 : Int} (h0 : yrg a0) (h1 : yrg a1) (h2 : yrg a2) (h3 : yrg a3) : yOut l D tA ex sc xm94 [.inr (.inr (1, 0)), .inl (a0, a0), .inl (a1, a1), .inl (a2, a2), .inl (a3, a3)] ks w false := by
  exact yout (yall 94 xm94 _ rfl (yct_of (L := yD505) (i := 417) (d := yD_88) rfl)) (by decide +kernel) ⟨_, _, rfl, Or.inr ⟨0, rfl, hW.2.1⟩, _, _, rfl, ytop_in h0, _, _, rfl, ytop_in h1, _, _, rfl, ytop_in h2, _, _, rfl, ytop_in h3, rfl⟩ hW
set_option maxRecDepth 4000 in
theorem ym_100 {ks : List Nat} {w : XW} (hW : yW ks w) {a0 a1 a2 : Int} (h0 : yrg a0) (h1 : yrg a1) (h2 : yrg a2) : yOut l D tA ex sc xm100 [.inr (.inr (1, 0)), .inl (a0, a0), .inl (a1, a1), .inl (a2, a2)] ks w false := by
  exact yout (yall 100 xm100 _ rfl (yct_of (L := yD505) (i := 414) (d := yD_91) rfl)) (by decide +kernel) ⟨_, _, rfl, Or.inr ⟨0, rfl, hW.2.1⟩, _, _, rfl, ytop_in h0, _, _, rfl, ytop_in h1, _, _, rfl, ytop_in h2, rfl⟩ hW
set_option maxRecDepth 4000 in
theorem ym_103 {ks : List Nat} {w : XW} (hW : yW ks w) {a0 : Int} (h0 : yrg a0) : yOut l D tA ex sc xm103 [.inr (.inr (1, 0)), .inl (a0, a0)] ks w false := by
  exact yout (yall 103 xm103 _ rfl (yct_of (L := yD505) (i := 409) (d := yD_96) rfl)) (by decide +kernel) ⟨_, _, rfl, Or.inr ⟨0, rfl, hW.2.1⟩, _, _, rfl, ytop_in h0, rfl⟩ hW
set_option maxRecDepth 4000 in
theorem ym_108 {ks : List Nat} {w : XW} (hW : yW ks w) {a0 a1 : Int} (h0 : yrg a0) (h1 : yrg a1) : yOut l D tA ex sc xm108 [.inr (.inr (1, 0)), .inl (a0, a0), .inl (a1, a1)] ks w false := by
  exact yout (yall 108 xm108 _ rfl (yct_of (L := yD505) (i := 408) (d := yD_97) rfl)) (by decide +kernel) ⟨_, _, rfl, Or.inr ⟨0, rfl, hW.2.1⟩, _, _, rfl, ytop_in h0, _, _, rfl, ytop_in h1, rfl⟩ hW
set_option maxRecDepth 4000 in
theorem ym_109 {ks : List Nat} {w : XW} (hW : yW ks w) {a0 a1 : Int} (h0 : yrg a0) (h1 : yrg a1) : yOut l D tA ex sc xm109 [.inr (.inr (1, 0)), .inl (a0, a0), .inl (a1, a1)] ks w false := by
  exact yout (yall 109 xm109 _ rfl (yct_of (L := yD505) (i := 407) (d := yD_98) rfl)) (by decide +kernel) ⟨_, _, rfl, Or.inr ⟨0, rfl, hW.2.1⟩, _, _, rfl, ytop_in h0, _, _, rfl, ytop_in h1, rfl⟩ hW
set_option maxRecDepth 4000 in
theorem ym_110 {ks : List Nat} {w : XW} (hW : yW ks w) {a0 : Int} (h0 : yrg a0) : yOut l D tA ex sc xm110 [.inr (.inr (1, 0)), .inl (a0, a0)] ks w false := by
  exact yout (yall 110 xm110 _ rfl (yct_of (L := yD505) (i := 405) (d := yD_100) rfl)) (by decide +kernel) ⟨_, _, rfl, Or.inr ⟨0, rfl, hW.2.1⟩, _, _, rfl, ytop_in h0, rfl⟩ hW
set_option maxRecDepth 4000 in
theorem ym_112 {ks : List Nat} {w : XW} (hW : yW ks w) {a0 a1 a2 : Int} (h0 : yrg a0) (h1 : yrg a1) (h2 : yrg a2) : yOut l D tA ex sc xm112 [.inr (.inr (1, 0)), .inl (a0, a0), .inl (a1, a1), .inl (a2, a2)] ks w false := by
  exact yout (yall 112 xm112 _ rfl (yct_of (L := yD505) (i := 402) (d := yD_103) rfl)) (by decide +kernel) ⟨_, _, rfl, Or.inr ⟨0, rfl, hW.2.1⟩, _, _, rfl, ytop_in h0, _, _, rfl, ytop_in h1, _, _, rfl, ytop_in h2, rfl⟩ hW
set_option maxRecDepth 4000 in
theorem ym_115 {ks : List Nat} {w : XW} (hW : yW ks w) {a0 : Int} (h0 : yrg a0) : yOut l D tA ex sc xm115 [.inr (.inr (1, 0)), .inl (a0, a0)] ks w false := by
  exact yout (yall 115 xm115 _ rfl (yct_of (L := yD505) (i := 401) (d := yD_104) rfl)) (by decide +kernel) ⟨_, _, rfl, Or.inr ⟨0, rfl, hW.2.1⟩, _, _, rfl, ytop_in h0, rfl⟩ hW
set_option maxRecDepth 4000 in
theorem ym_116 {ks : List Nat} {w : XW} (hW : yW ks w) {a0 a1 : Int} (h0 : yrg a0) (h1 : yrg a1) : yOut l D tA ex sc xm116 [.inr (.inr (1, 0)), .inl (a0, a0), .inl (a1, a1)] ks w false := by
  obtain ⟨lo, hi, C, c1, c2, c3, c4⟩ := ypl_116 a0 h0
  exact yout c1 c3 (by rw [c2]; exact ⟨_, _, rfl, Or.inr ⟨0, rfl, hW.2.1⟩, _, _, rfl, ⟨a0, rfl, c4.1, c4.2, h0.1, h0.2⟩, _, _, rfl, ytop_in h1, rfl⟩) hW
set_option maxRecDepth 4000 in
theorem ym_128 {ks : List Nat} {w : XW} (hW : yW ks w) {a0 a1 : Int} (h0 : yrg a0) (h1 : yrg a1) : yOut l D tA ex sc xm128 [.inr (.inr (1, 0)), .inl (a0, a0), .inl (a1, a1)] ks w false := by
  exact yout (yall 128 xm128 _ rfl (yct_of (L := yD505) (i := 253) (d := yD_252) rfl)) (by decide +kernel) ⟨_, _, rfl, Or.inr ⟨0, rfl, hW.2.1⟩, _, _, rfl, ytop_in h0, _, _, rfl, ytop_in h1, rfl⟩ hW
set_option maxRecDepth 4000 in
theorem ym_135 {ks : List Nat} {w : XW} (hW : yW ks w) {a0 a1 a2 : Int} (h0 : yrg a0) (h1 : yrg a1) (h2 : yrg a2) : yOut l D tA ex sc xm135 [.inr (.inr (1, 0)), .inl (a0, a0), .inl (a1, a1), .inl (a2, a2)] ks w false := by
  exact yout (yall 135 xm135 _ rfl (yct_of (L := yD505) (i := 246) (d := yD_259) rfl)) (by decide +kernel) ⟨_, _, rfl, Or.inr ⟨0, rfl, hW.2.1⟩, _, _, rfl, ytop_in h0, _, _, rfl, ytop_in h1, _, _, rfl, ytop_in h2, rfl⟩ hW
set_option maxRecDepth 4000 in
theorem ym_142 {ks : List Nat} {w : XW} (hW : yW ks w)  : yOut l D tA ex sc xm142 [.inr (.inr (1, 0))] ks w false := by
  exact yout (yall 142 xm142 _ rfl (yct_of (L := yD505) (i := 245) (d := yD_260) rfl)) (by decide +kernel) ⟨_, _, rfl, Or.inr ⟨0, rfl, hW.2.1⟩, rfl⟩ hW
set_option maxRecDepth 4000 in
theorem ym_143 {ks : List Nat} {w : XW} (hW : yW ks w)  : yOut l D tA ex sc xm143 [.inr (.inr (1, 0))] ks w true := by
  exact yout (yall 143 xm143 _ rfl (yct_of (L := yD505) (i := 244) (d := yD_261) rfl)) (by decide +kernel) ⟨_, _, rfl, Or.inr ⟨0, rfl, hW.2.1⟩, rfl⟩ hW
set_option maxRecDepth 4000 in
theorem ym_144 {ks : List Nat} {w : XW} (hW : yW ks w)  : yOut l D tA ex sc xm144 [.inr (.inr (1, 0))] ks w true := by
  exact yout (yall 144 xm144 _ rfl (yct_of (L := yD505) (i := 243) (d := yD_262) rfl)) (by decide +kernel) ⟨_, _, rfl, Or.inr ⟨0, rfl, hW.2.1⟩, rfl⟩ hW
set_option maxRecDepth 4000 in
theorem ym_145 {ks : List Nat} {w : XW} (hW : yW ks w)  : yOut l D tA ex sc xm145 [.inr (.inr (1, 0))] ks w true := by
  exact yout (yall 145 xm145 _ rfl (yct_of (L := yD505) (i := 242) (d := yD_263) rfl)) (by decide +kernel) ⟨_, _, rfl, Or.inr ⟨0, rfl, hW.2.1⟩, rfl⟩ hW
set_option maxRecDepth 4000 in
theorem ym_146 {ks : List Nat} {w : XW} (hW : yW ks w) {a0 : Int} (h0 : yrg a0) : yOut l D tA ex sc xm146 [.inr (.inr (1, 0)), .inl (a0, a0)] ks w false := by
  exact yout (yall 146 xm146 _ rfl (yct_of (L := yD505) (i := 237) (d := yD_268) rfl)) (by decide +kernel) ⟨_, _, rfl, Or.inr ⟨0, rfl, hW.2.1⟩, _, _, rfl, ytop_in h0, rfl⟩ hW
set_option maxRecDepth 4000 in
theorem ym_150 {ks : List Nat} {w : XW} (hW : yW ks w)  : yOut l D tA ex sc xm150 [.inr (.inr (1, 0))] ks w false := by
  exact yout (yall 150 xm150 _ rfl (yct_of (L := yD505) (i := 236) (d := yD_269) rfl)) (by decide +kernel) ⟨_, _, rfl, Or.inr ⟨0, rfl, hW.2.1⟩, rfl⟩ hW
set_option maxRecDepth 4000 in
theorem ym_151 {ks : List Nat} {w : XW} (hW : yW ks w) {a0 : Int} (h0 : yrg a0) : yOut l D tA ex sc xm151 [.inr (.inr (1, 0)), .inl (a0, a0)] ks w false := by
  exact yout (yall 151 xm151 _ rfl (yct_of (L := yD505) (i := 235) (d := yD_270) rfl)) (by decide +kernel) ⟨_, _, rfl, Or.inr ⟨0, rfl, hW.2.1⟩, _, _, rfl, ytop_in h0, rfl⟩ hW
set_option maxRecDepth 4000 in
theorem ym_152 {ks : List Nat} {w : XW} (hW : yW ks w)  : yOut l D tA ex sc xm152 [.inr (.inr (1, 0))] ks w true := by
  exact yout (yall 152 xm152 _ rfl (yct_of (L := yD505) (i := 229) (d := yD_276) rfl)) (by decide +kernel) ⟨_, _, rfl, Or.inr ⟨0, rfl, hW.2.1⟩, rfl⟩ hW
set_option maxRecDepth 4000 in
theorem ym_158 {ks : List Nat} {w : XW} (hW : yW ks w) {a0 a1 : Int} (h0 : yrg a0) (h1 : yrg a1) : yOut l D tA ex sc xm158 [.inr (.inr (1, 57)), .inl (a0, a0), .inl (a1, a1)] ks w false := by
  exact yout (yall 158 xm158 _ rfl (yct_of (L := yD505) (i := 225) (d := yD_280) rfl)) (by decide +kernel) ⟨_, _, rfl, Or.inr ⟨57, rfl, hW.2.2.1⟩, _, _, rfl, ytop_in h0, _, _, rfl, ytop_in h1, rfl⟩ hW
set_option maxRecDepth 4000 in
theorem ym_162 {ks : List Nat} {w : XW} (hW : yW ks w) {a0 a1 a2 : Int} (h0 : yrg a0) (h1 : yrg a1) (h2 : yrg a2) : yOut l D tA ex sc xm162 [.inr (.inr (1, 57)), .inl (a0, a0), .inl (a1, a1), .inl (a2, a2)] ks w false := by
  exact yout (yall 162 xm162 _ rfl (yct_of (L := yD505) (i := 222) (d := yD_283) rfl)) (by decide +kernel) ⟨_, _, rfl, Or.inr ⟨57, rfl, hW.2.2.1⟩, _, _, rfl, ytop_in h0, _, _, rfl, ytop_in h1, _, _, rfl, ytop_in h2, rfl⟩ hW
set_option maxRecDepth 4000 in
theorem ym_165 {ks : List Nat} {w : XW} (hW : yW ks w) {a0 : Int} (h0 : yrg a0) : yOut l D tA ex sc xm165 [.inr (.inr (1, 57)), .inl (a0, a0)] ks w false := by
  exact yout (yall 165 xm165 _ rfl (yct_of (L := yD505) (i := 221) (d := yD_284) rfl)) (by decide +kernel) ⟨_, _, rfl, Or.inr ⟨57, rfl, hW.2.2.1⟩, _, _, rfl, ytop_in h0, rfl⟩ hW
set_option maxRecDepth 4000 in
theorem ym_166 {ks : List Nat} {w : XW} (hW : yW ks w) {a0 a1 a2 a3 a4 : Int} (h0 : yrg a0) (h1 : yrg a1) (h2 : yrg a2) (h3 : yrg a3) (h4 : yrg a4) : yOut l D tA ex sc xm166 [.inr (.inr (1, 57)), .inl (a0, a0), .inl (a1, a1), .inl (a2, a2), .inl (a3, a3), .inl (a4, a4)] ks w false := by
  exact yout (yall 166 xm166 _ rfl (yct_of (L := yD505) (i := 220) (d := yD_285) rfl)) (by decide +kernel) ⟨_, _, rfl, Or.inr ⟨57, rfl, hW.2.2.1⟩, _, _, rfl, ytop_in h0, _, _, rfl, ytop_in h1, _, _, rfl, ytop_in h2, _, _, rfl, ytop_in h3, _, _, rfl, ytop_in h4, rfl⟩ hW
set_option maxRecDepth 4000 in
theorem ym_167 {ks : List Nat} {w : XW} (hW : yW ks w) {a0 : Int} (h0 : yrg a0) : yOut l D tA ex sc xm167 [.inr (.inr (1, 57)), .inl (a0, a0)] ks w false := by
  exact yout (yall 167 xm167 _ rfl (yct_of (L := yD505) (i := 218) (d := yD_287) rfl)) (by decide +kernel) ⟨_, _, rfl, Or.inr ⟨57, rfl, hW.2.2.1⟩, _, _, rfl, ytop_in h0, rfl⟩ hW
set_option maxRecDepth 4000 in
theorem ym_169 {ks : List Nat} {w : XW} (hW : yW ks w) {a0 a1 : Int} (h0 : yrg a0) (h1 : yrg a1) : yOut l D tA ex sc xm169 [.inr (.inr (1, 57)), .inl (a0, a0), .inl (a1, a1)] ks w false := by
  exact yout (yall 169 xm169 _ rfl (yct_of (L := yD505) (i := 216) (d := yD_289) rfl)) (by decide +kernel) ⟨_, _, rfl, Or.inr ⟨57, rfl, hW.2.2.1⟩, _, _, rfl, ytop_in h0, _, _, rfl, ytop_in h1, rfl⟩ hW
set_option maxRecDepth 4000 in
theorem ym_171 {ks : List Nat} {w : XW} (hW : yW ks w) {a0 a1 a2 : Int} (h0 : yrg a0) (h1 : yrg a1) (h2 : yrg a2) : yOut l D tA ex sc xm171 [.inr (.inr (1, 57)), .inl (a0, a0), .inl (a1, a1), .inl (a2, a2)] ks w false := by
  exact yout (yall 171 xm171 _ rfl (yct_of (L := yD505) (i := 214) (d := yD_291) rfl)) (by decide +kernel) ⟨_, _, rfl, Or.inr ⟨57, rfl, hW.2.2.1⟩, _, _, rfl, ytop_in h0, _, _, rfl, ytop_in h1, _, _, rfl, ytop_in h2, rfl⟩ hW
set_option maxRecDepth 4000 in
theorem ym_173 {ks : List Nat} {w : XW} (hW : yW ks w) {a0 a1 : Int} (h0 : yrg a0) (h1 : 0 ≤ a1 ∧ a1 ≤ 1) : yOut l D tA ex sc xm173 [.inr (.inr (1, 57)), .inl (a0, a0), .inl (a1, a1)] ks w false := by
  exact yout (yall 173 xm173 _ rfl (yct_of (L := yD505) (i := 211) (d := yD_294) rfl)) (by decide +kernel) ⟨_, _, rfl, Or.inr ⟨57, rfl, hW.2.2.1⟩, _, _, rfl, ytop_in h0, _, _, rfl, ⟨a1, rfl, Int.le_trans (by decide) h1.1, Int.le_trans h1.2 (by decide), by omega, by omega⟩, rfl⟩ hW
set_option maxRecDepth 4000 in
theorem ym_176 {ks : List Nat} {w : XW} (hW : yW ks w) {a0 a1 a2 a3 : Int} (h0 : yrg a0) (h1 : yrg a1) (h2 : yrg a2) (h3 : yrg a3) : yOut l D tA ex sc xm176 [.inr (.inr (1, 57)), .inl (a0, a0), .inl (a1, a1), .inl (a2, a2), .inl (a3, a3)] ks w false := by
  exact yout (yall 176 xm176 _ rfl (yct_of (L := yD505) (i := 208) (d := yD_297) rfl)) (by decide +kernel) ⟨_, _, rfl, Or.inr ⟨57, rfl, hW.2.2.1⟩, _, _, rfl, ytop_in h0, _, _, rfl, ytop_in h1, _, _, rfl, ytop_in h2, _, _, rfl, ytop_in h3, rfl⟩ hW
set_option maxRecDepth 4000 in
theorem ym_179 {ks : List Nat} {w : XW} (hW : yW ks w) {a0 a1 : Int} (h0 : yrg a0) (h1 : yrg a1) : yOut l D tA ex sc xm179 [.inr (.inr (1, 57)), .inl (a0, a0), .inl (a1, a1)] ks w false := by
  exact yout (yall 179 xm179 _ rfl (yct_of (L := yD505) (i := 206) (d := yD_299) rfl)) (by decide +kernel) ⟨_, _, rfl, Or.inr ⟨57, rfl, hW.2.2.1⟩, _, _, rfl, ytop_in h0, _, _, rfl, ytop_in h1, rfl⟩ hW
set_option maxRecDepth 4000 in
theorem ym_181 {ks : List Nat} {w : XW} (hW : yW ks w) {a0 a1 : Int} (h0 : yrg a0) (h1 : yrg a1) : yOut l D tA ex sc xm181 [.inr (.inr (1, 57)), .inl (a0, a0), .inl (a1, a1)] ks w false := by
  exact yout (yall 181 xm181 _ rfl (yct_of (L := yD505) (i := 205) (d := yD_300) rfl)) (by decide +kernel) ⟨_, _, rfl, Or.inr ⟨57, rfl, hW.2.2.1⟩, _, _, rfl, ytop_in h0, _, _, rfl, ytop_in h1, rfl⟩ hW
set_option maxRecDepth 4000 in
theorem ym_182 {ks : List Nat} {w : XW} (hW : yW ks w) {a0 : Int} (h0 : yrg a0) : yOut l D tA ex sc xm182 [.inr (.inr (1, 57)), .inl (a0, a0)] ks w false := by
  exact yout (yall 182 xm182 _ rfl (yct_of (L := yD505) (i := 204) (d := yD_301) rfl)) (by decide +kernel) ⟨_, _, rfl, Or.inr ⟨57, rfl, hW.2.2.1⟩, _, _, rfl, ytop_in h0, rfl⟩ hW
set_option maxRecDepth 4000 in
theorem ym_183 {ks : List Nat} {w : XW} (hW : yW ks w) {a0 : Int} (h0 : yrg a0) : yOut l D tA ex sc xm183 [.inr (.inr (1, 57)), .inl (a0, a0)] ks w false := by
  exact yout (yall 183 xm183 _ rfl (yct_of (L := yD505) (i := 203) (d := yD_302) rfl)) (by decide +kernel) ⟨_, _, rfl, Or.inr ⟨57, rfl, hW.2.2.1⟩, _, _, rfl, ytop_in h0, rfl⟩ hW
set_option maxRecDepth 4000 in
theorem ym_184 {ks : List Nat} {w : XW} (hW : yW ks w) {a0 a1 : Int} (h0 : yrg a0) (h1 : yrg a1) : yOut l D tA ex sc xm184 [.inr (.inr (1, 57)), .inl (a0, a0), .inl (a1, a1)] ks w false := by
  exact yout (yall 184 xm184 _ rfl (yct_of (L := yD505) (i := 200) (d := yD_305) rfl)) (by decide +kernel) ⟨_, _, rfl, Or.inr ⟨57, rfl, hW.2.2.1⟩, _, _, rfl, ytop_in h0, _, _, rfl, ytop_in h1, rfl⟩ hW
set_option maxRecDepth 4000 in
theorem ym_187 {ks : List Nat} {w : XW} (hW : yW ks w) {a0 a1 a2 a3 : Int} (h0 : yrg a0) (h1 : yrg a1) (h2 : yrg a2) (h3 : yrg a3) : yOut l D tA ex sc xm187 [.inr (.inr (1, 57)), .inl (a0, a0), .inl (a1, a1), .inl (a2, a2), .inl (a3, a3)] ks w false := by
  exact yout (yall 187 xm187 _ rfl (yct_of (L := yD505) (i := 198) (d := yD_307) rfl)) (by decide +kernel) ⟨_, _, rfl, Or.inr ⟨57, rfl, hW.2.2.1⟩, _, _, rfl, ytop_in h0, _, _, rfl, ytop_in h1, _, _, rfl, ytop_in h2, _, _, rfl, ytop_in h3, rfl⟩ hW
set_option maxRecDepth 4000 in
theorem ym_189 {ks : List Nat} {w : XW} (hW : yW ks w) {a0 a1 : Int} (h0 : yrg a0) (h1 : yrg a1) : yOut l D tA ex sc xm189 [.inr (.inr (1, 57)), .inl (a0, a0), .inl (a1, a1)] ks w false := by
  exact yout (yall 189 xm189 _ rfl (yct_of (L := yD505) (i := 194) (d := yD_311) rfl)) (by decide +kernel) ⟨_, _, rfl, Or.inr ⟨57, rfl, hW.2.2.1⟩, _, _, rfl, ytop_in h0, _, _, rfl, ytop_in h1, rfl⟩ hW
set_option maxRecDepth 4000 in
theorem ym_194 {ks : List Nat} {w : XW} (hW : yW ks w) {a0 a1 : Int} (h0 : yrg a0) (h1 : yrg a1) : yOut l D tA ex sc xm194 [.inr (.inr (1, 57)), .inl (a0, a0), .inl (a1, a1)] ks w false := by
  exact yout (yall 194 xm194 _ rfl (yct_of (L := yD505) (i := 193) (d := yD_312) rfl)) (by decide +kernel) ⟨_, _, rfl, Or.inr ⟨57, rfl, hW.2.2.1⟩, _, _, rfl, ytop_in h0, _, _, rfl, ytop_in h1, rfl⟩ hW
set_option maxRecDepth 4000 in
theorem ym_195 {ks : List Nat} {w : XW} (hW : yW ks w) {a0 : Int} (h0 : yrg a0) : yOut l D tA ex sc xm195 [.inr (.inr (1, 57)), .inl (a0, a0)] ks w false := by
  exact yout (yall 195 xm195 _ rfl (yct_of (L := yD505) (i := 192) (d := yD_313) rfl)) (by decide +kernel) ⟨_, _, rfl, Or.inr ⟨57, rfl, hW.2.2.1⟩, _, _, rfl, ytop_in h0, rfl⟩ hW
set_option maxRecDepth 4000 in
theorem ym_196 {ks : List Nat} {w : XW} (hW : yW ks w) {a0 a1 : Int} (h0 : yrg a0) (h1 : yrg a1) : yOut l D tA ex sc xm196 [.inr (.inr (1, 57)), .inl (a0, a0), .inl (a1, a1)] ks w false := by
  exact yout (yall 196 xm196 _ rfl (yct_of (L := yD505) (i := 190) (d := yD_315) rfl)) (by decide +kernel) ⟨_, _, rfl, Or.inr ⟨57, rfl, hW.2.2.1⟩, _, _, rfl, ytop_in h0, _, _, rfl, ytop_in h1, rfl⟩ hW
set_option maxRecDepth 4000 in
theorem ym_198 {ks : List Nat} {w : XW} (hW : yW ks w)  : yOut l D tA ex sc xm198 [.inr (.inr (1, 57))] ks w false := by
  exact yout (yall 198 xm198 _ rfl (yct_of (L := yD505) (i := 181) (d := yD_324) rfl)) (by decide +kernel) ⟨_, _, rfl, Or.inr ⟨57, rfl, hW.2.2.1⟩, rfl⟩ hW
set_option maxRecDepth 4000 in
theorem ym_207 {ks : List Nat} {w : XW} (hW : yW ks w) {a0 : Int} (h0 : yrg a0) : yOut l D tA ex sc xm207 [.inr (.inr (1, 57)), .inl (a0, a0)] ks w false := by
  exact yout (yall 207 xm207 _ rfl (yct_of (L := yD505) (i := 180) (d := yD_325) rfl)) (by decide +kernel) ⟨_, _, rfl, Or.inr ⟨57, rfl, hW.2.2.1⟩, _, _, rfl, ytop_in h0, rfl⟩ hW
set_option maxRecDepth 4000 in
theorem ym_208 {ks : List Nat} {w : XW} (hW : yW ks w) {a0 a1 : Int} (h0 : yrg a0) (h1 : yrg a1) : yOut l D tA ex sc xm208 [.inr (.inr (1, 57)), .inl (a0, a0), .inl (a1, a1)] ks w false := by
  exact yout (yall 208 xm208 _ rfl (yct_of (L := yD505) (i := 177) (d := yD_328) rfl)) (by decide +kernel) ⟨_, _, rfl, Or.inr ⟨57, rfl, hW.2.2.1⟩, _, _, rfl, ytop_in h0, _, _, rfl, ytop_in h1, rfl⟩ hW
set_option maxRecDepth 4000 in
theorem ym_211 {ks : List Nat} {w : XW} (hW : yW ks w) {a0 : Int} (h0 : yrg a0) : yOut l D tA ex sc xm211 [.inr (.inr (1, 57)), .inl (a0, a0)] ks w false := by
  exact yout (yall 211 xm211 _ rfl (yct_of (L := yD505) (i := 176) (d := yD_329) rfl)) (by decide +kernel) ⟨_, _, rfl, Or.inr ⟨57, rfl, hW.2.2.1⟩, _, _, rfl, ytop_in h0, rfl⟩ hW
set_option maxRecDepth 4000 in
theorem ym_212 {ks : List Nat} {w : XW} (hW : yW ks w) {a0 : Int} (h0 : yrg a0) : yOut l D tA ex sc xm212 [.inr (.inr (1, 57)), .inl (a0, a0)] ks w false := by
  exact yout (yall 212 xm212 _ rfl (yct_of (L := yD505) (i := 175) (d := yD_330) rfl)) (by decide +kernel) ⟨_, _, rfl, Or.inr ⟨57, rfl, hW.2.2.1⟩, _, _, rfl, ytop_in h0, rfl⟩ hW
set_option maxRecDepth 4000 in
theorem ym_213 {ks : List Nat} {w : XW} (hW : yW ks w) {a0 a1 a2 : Int} (h0 : yrg a0) (h1 : yrg a1) (h2 : yrg a2) : yOut l D tA ex sc xm213 [.inr (.inr (1, 57)), .inl (a0, a0), .inl (a1, a1), .inl (a2, a2)] ks w false := by
  exact yout (yall 213 xm213 _ rfl (yct_of (L := yD505) (i := 173) (d := yD_332) rfl)) (by decide +kernel) ⟨_, _, rfl, Or.inr ⟨57, rfl, hW.2.2.1⟩, _, _, rfl, ytop_in h0, _, _, rfl, ytop_in h1, _, _, rfl, ytop_in h2, rfl⟩ hW
set_option maxRecDepth 4000 in
theorem ym_215 {ks : List Nat} {w : XW} (hW : yW ks w) {a0 a1 : Int} (h0 : yrg a0) (h1 : yrg a1) : yOut l D tA ex sc xm215 [.inr (.inr (1, 57)), .inl (a0, a0), .inl (a1, a1)] ks w false := by
  exact yout (yall 215 xm215 _ rfl (yct_of (L := yD505) (i := 170) (d := yD_335) rfl)) (by decide +kernel) ⟨_, _, rfl, Or.inr ⟨57, rfl, hW.2.2.1⟩, _, _, rfl, ytop_in h0, _, _, rfl, ytop_in h1, rfl⟩ hW
set_option maxRecDepth 4000 in
theorem ym_218 {ks : List Nat} {w : XW} (hW : yW ks w) {a0 a1 : Int} (h0 : yrg a0) (h1 : yrg a1) : yOut l D tA ex sc xm218 [.inr (.inr (1, 57)), .inl (a0, a0), .inl (a1, a1)] ks w false := by
  exact yout (yall 218 xm218 _ rfl (yct_of (L := yD505) (i := 169) (d := yD_336) rfl)) (by decide +kernel) ⟨_, _, rfl, Or.inr ⟨57, rfl, hW.2.2.1⟩, _, _, rfl, ytop_in h0, _, _, rfl, ytop_in h1, rfl⟩ hW
set_option maxRecDepth 4000 in
theorem ym_219 {ks : List Nat} {w : XW} (hW : yW ks w) {a0 a1 : Int} (h0 : yrg a0) (h1 : yrg a1) : yOut l D tA ex sc xm219 [.inr (.inr (1, 57)), .inl (a0, a0), .inl (a1, a1)] ks w false := by
  exact yout (yall 219 xm219 _ rfl (yct_of (L := yD505) (i := 168) (d := yD_337) rfl)) (by decide +kernel) ⟨_, _, rfl, Or.inr ⟨57, rfl, hW.2.2.1⟩, _, _, rfl, ytop_in h0, _, _, rfl, ytop_in h1, rfl⟩ hW
set_option maxRecDepth 4000 in
theorem ym_220 {ks : List Nat} {w : XW} (hW : yW ks w) {a0 a1 a2 a3 : Int} (h0 : yrg a0) (h1 : yrg a1) (h2 : yrg a2) (h3 : yrg a3) : yOut l D tA ex sc xm220 [.inr (.inr (1, 57)), .inl (a0, a0), .inl (a1, a1), .inl (a2, a2), .inl (a3, a3)] ks w false := by
  exact yout (yall 220 xm220 _ rfl (yct_of (L := yD505) (i := 162) (d := yD_343) rfl)) (by decide +kernel) ⟨_, _, rfl, Or.inr ⟨57, rfl, hW.2.2.1⟩, _, _, rfl, ytop_in h0, _, _, rfl, ytop_in h1, _, _, rfl, ytop_in h2, _, _, rfl, ytop_in h3, rfl⟩ hW
set_option maxRecDepth 4000 in
theorem ym_224 {ks : List Nat} {w : XW} (hW : yW ks w) {a0 a1 a2 : Int} (h0 : yrg a0) (h1 : yrg a1) (h2 : yrg a2) : yOut l D tA ex sc xm224 [.inr (.inr (1, 57)), .inl (a0, a0), .inl (a1, a1), .inl (a2, a2)] ks w false := by
  exact yout (yall 224 xm224 _ rfl (yct_of (L := yD505) (i := 161) (d := yD_344) rfl)) (by decide +kernel) ⟨_, _, rfl, Or.inr ⟨57, rfl, hW.2.2.1⟩, _, _, rfl, ytop_in h0, _, _, rfl, ytop_in h1, _, _, rfl, ytop_in h2, rfl⟩ hW
set_option maxRecDepth 4000 in
theorem ym_225 {ks : List Nat} {w : XW} (hW : yW ks w) {a0 : Int} (h0 : yrg a0) : yOut l D tA ex sc xm225 [.inr (.inr (1, 57)), .inl (a0, a0)] ks w false := by
  exact yout (yall 225 xm225 _ rfl (yct_of (L := yD505) (i := 158) (d := yD_347) rfl)) (by decide +kernel) ⟨_, _, rfl, Or.inr ⟨57, rfl, hW.2.2.1⟩, _, _, rfl, ytop_in h0, rfl⟩ hW
set_option maxRecDepth 4000 in
theorem ym_228 {ks : List Nat} {w : XW} (hW : yW ks w) {a0 a1 : Int} (h0 : yrg a0) (h1 : yrg a1) : yOut l D tA ex sc xm228 [.inr (.inr (1, 57)), .inl (a0, a0), .inl (a1, a1)] ks w false := by
  exact yout (yall 228 xm228 _ rfl (yct_of (L := yD505) (i := 157) (d := yD_348) rfl)) (by decide +kernel) ⟨_, _, rfl, Or.inr ⟨57, rfl, hW.2.2.1⟩, _, _, rfl, ytop_in h0, _, _, rfl, ytop_in h1, rfl⟩ hW
set_option maxRecDepth 4000 in
theorem ym_229 {ks : List Nat} {w : XW} (hW : yW ks w) {a0 a1 : Int} (h0 : yrg a0) (h1 : yrg a1) : yOut l D tA ex sc xm229 [.inr (.inr (1, 57)), .inl (a0, a0), .inl (a1, a1)] ks w false := by
  exact yout (yall 229 xm229 _ rfl (yct_of (L := yD505) (i := 156) (d := yD_349) rfl)) (by decide +kernel) ⟨_, _, rfl, Or.inr ⟨57, rfl, hW.2.2.1⟩, _, _, rfl, ytop_in h0, _, _, rfl, ytop_in h1, rfl⟩ hW
set_option maxRecDepth 4000 in
theorem ym_230 {ks : List Nat} {w : XW} (hW : yW ks w) {a0 : Int} (h0 : yrg a0) : yOut l D tA ex sc xm230 [.inr (.inr (1, 57)), .inl (a0, a0)] ks w false := by
  exact yout (yall 230 xm230 _ rfl (yct_of (L := yD505) (i := 155) (d := yD_350) rfl)) (by decide +kernel) ⟨_, _, rfl, Or.inr ⟨57, rfl, hW.2.2.1⟩, _, _, rfl, ytop_in h0, rfl⟩ hW
set_option maxRecDepth 4000 in
theorem ym_231 {ks : List Nat} {w : XW} (hW : yW ks w) {a0 a1 a2 : Int} (h0 : yrg a0) (h1 : yrg a1) (h2 : yrg a2) : yOut l D tA ex sc xm231 [.inr (.inr (1, 57)), .inl (a0, a0), .inl (a1, a1), .inl (a2, a2)] ks w false := by
  exact yout (yall 231 xm231 _ rfl (yct_of (L := yD505) (i := 152) (d := yD_353) rfl)) (by decide +kernel) ⟨_, _, rfl, Or.inr ⟨57, rfl, hW.2.2.1⟩, _, _, rfl, ytop_in h0, _, _, rfl, ytop_in h1, _, _, rfl, ytop_in h2, rfl⟩ hW
set_option maxRecDepth 4000 in
theorem ym_234 {ks : List Nat} {w : XW} (hW : yW ks w) {a0 : Int} (h0 : yrg a0) : yOut l D tA ex sc xm234 [.inr (.inr (1, 57)), .inl (a0, a0)] ks w false := by
  exact yout (yall 234 xm234 _ rfl (yct_of (L := yD505) (i := 150) (d := yD_355) rfl)) (by decide +kernel) ⟨_, _, rfl, Or.inr ⟨57, rfl, hW.2.2.1⟩, _, _, rfl, ytop_in h0, rfl⟩ hW
set_option maxRecDepth 4000 in
theorem ym_235 {ks : List Nat} {w : XW} (hW : yW ks w) {a0 a1 : Int} (h0 : yrg a0) (h1 : yrg a1) : yOut l D tA ex sc xm235 [.inr (.inr (1, 57)), .inl (a0, a0), .inl (a1, a1)] ks w false := by
  obtain ⟨lo, hi, C, c1, c2, c3, c4⟩ := ypl_235 a0 h0
  exact yout c1 c3 (by rw [c2]; exact ⟨_, _, rfl, Or.inr ⟨57, rfl, hW.2.2.1⟩, _, _, rfl, ⟨a0, rfl, c4.1, c4.2, h0.1, h0.2⟩, _, _, rfl, ytop_in h1, rfl⟩) hW
set_option maxRecDepth 4000 in
theorem ym_238 {ks : List Nat} {w : XW} (hW : yW ks w) {a0 a1 : Int} (h0 : yrg a0) (h1 : yrg a1) : yOut l D tA ex sc xm238 [.inr (.inr (1, 57)), .inl (a0, a0), .inl (a1, a1)] ks w false := by
  exact yout (yall 238 xm238 _ rfl (yct_of (L := yD505) (i := 17) (d := yD_488) rfl)) (by decide +kernel) ⟨_, _, rfl, Or.inr ⟨57, rfl, hW.2.2.1⟩, _, _, rfl, ytop_in h0, _, _, rfl, ytop_in h1, rfl⟩ hW
set_option maxRecDepth 4000 in
theorem ym_241 {ks : List Nat} {w : XW} (hW : yW ks w) {a0 a1 a2 : Int} (h0 : yrg a0) (h1 : yrg a1) (h2 : yrg a2) : yOut l D tA ex sc xm241 [.inr (.inr (1, 57)), .inl (a0, a0), .inl (a1, a1), .inl (a2, a2)] ks w false := by
  exact yout (yall 241 xm241 _ rfl (yct_of (L := yD505) (i := 15) (d := yD_490) rfl)) (by decide +kernel) ⟨_, _, rfl, Or.inr ⟨57, rfl, hW.2.2.1⟩, _, _, rfl, ytop_in h0, _, _, rfl, ytop_in h1, _, _, rfl, ytop_in h2, rfl⟩ hW
set_option maxRecDepth 4000 in
theorem ym_243 {ks : List Nat} {w : XW} (hW : yW ks w)  : yOut l D tA ex sc xm243 [.inr (.inr (1, 57))] ks w false := by
  exact yout (yall 243 xm243 _ rfl (yct_of (L := yD505) (i := 14) (d := yD_491) rfl)) (by decide +kernel) ⟨_, _, rfl, Or.inr ⟨57, rfl, hW.2.2.1⟩, rfl⟩ hW
set_option maxRecDepth 4000 in
theorem ym_244 {ks : List Nat} {w : XW} (hW : yW ks w)  : yOut l D tA ex sc xm244 [.inr (.inr (1, 57))] ks w true := by
  exact yout (yall 244 xm244 _ rfl (yct_of (L := yD505) (i := 13) (d := yD_492) rfl)) (by decide +kernel) ⟨_, _, rfl, Or.inr ⟨57, rfl, hW.2.2.1⟩, rfl⟩ hW
set_option maxRecDepth 4000 in
theorem ym_245 {ks : List Nat} {w : XW} (hW : yW ks w)  : yOut l D tA ex sc xm245 [.inr (.inr (1, 57))] ks w true := by
  exact yout (yall 245 xm245 _ rfl (yct_of (L := yD505) (i := 12) (d := yD_493) rfl)) (by decide +kernel) ⟨_, _, rfl, Or.inr ⟨57, rfl, hW.2.2.1⟩, rfl⟩ hW
set_option maxRecDepth 4000 in
theorem ym_246 {ks : List Nat} {w : XW} (hW : yW ks w)  : yOut l D tA ex sc xm246 [.inr (.inr (1, 57))] ks w true := by
  exact yout (yall 246 xm246 _ rfl (yct_of (L := yD505) (i := 11) (d := yD_494) rfl)) (by decide +kernel) ⟨_, _, rfl, Or.inr ⟨57, rfl, hW.2.2.1⟩, rfl⟩ hW
set_option maxRecDepth 4000 in
theorem ym_247 {ks : List Nat} {w : XW} (hW : yW ks w) {a0 : Int} (h0 : yrg a0) : yOut l D tA ex sc xm247 [.inr (.inr (1, 57)), .inl (a0, a0)] ks w false := by
  exact yout (yall 247 xm247 _ rfl (yct_of (L := yD505) (i := 9) (d := yD_496) rfl)) (by decide +kernel) ⟨_, _, rfl, Or.inr ⟨57, rfl, hW.2.2.1⟩, _, _, rfl, ytop_in h0, rfl⟩ hW
set_option maxRecDepth 4000 in
theorem ym_249 {ks : List Nat} {w : XW} (hW : yW ks w)  : yOut l D tA ex sc xm249 [.inr (.inr (1, 57))] ks w false := by
  exact yout (yall 249 xm249 _ rfl (yct_of (L := yD505) (i := 8) (d := yD_497) rfl)) (by decide +kernel) ⟨_, _, rfl, Or.inr ⟨57, rfl, hW.2.2.1⟩, rfl⟩ hW
set_option maxRecDepth 4000 in
theorem ym_250 {ks : List Nat} {w : XW} (hW : yW ks w) {a0 : Int} (h0 : yrg a0) : yOut l D tA ex sc xm250 [.inr (.inr (1, 57)), .inl (a0, a0)] ks w false := by
  exact yout (yall 250 xm250 _ rfl (yct_of (L := yD505) (i := 7) (d := yD_498) rfl)) (by decide +kernel) ⟨_, _, rfl, Or.inr ⟨57, rfl, hW.2.2.1⟩, _, _, rfl, ytop_in h0, rfl⟩ hW
set_option maxRecDepth 4000 in
theorem ym_251 {ks : List Nat} {w : XW} (hW : yW ks w)  : yOut l D tA ex sc xm251 [.inr (.inr (1, 57))] ks w true := by
  exact yout (yall 251 xm251 _ rfl (yct_of (L := yD505) (i := 3) (d := yD_502) rfl)) (by decide +kernel) ⟨_, _, rfl, Or.inr ⟨57, rfl, hW.2.2.1⟩, rfl⟩ hW
end YL
