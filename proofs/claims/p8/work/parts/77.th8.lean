theorem ylkL_in {j : Nat} {C : YC} (h : C ∈ yct yB ylkL j) : C ∈ yct yB yD505 j := by
  have hm : ∀ d ∈ ylkL, d ∈ yD505 := fun d hd => by
    unfold ylkL at hd
    simp only [List.mem_cons, List.mem_nil_iff, or_false] at hd
    rcases hd with rfl | rfl
    · exact List.mem_of_getElem? (i := 473) rfl
    · exact List.mem_of_getElem? (i := 462) rfl
  rcases List.mem_append.mp h with h | h
  · exact List.mem_append_left _ h
  · obtain ⟨d, hd, e⟩ := List.mem_map.mp h
    obtain ⟨m1, m2⟩ := List.mem_filter.mp hd
    exact List.mem_append_right _ (List.mem_map.mpr ⟨d, List.mem_filter.mpr ⟨hm d m1, m2⟩, e⟩)
theorem ysyL_in {j : Nat} {C : YC} (h : C ∈ yct yB ysyL j) : C ∈ yct yB yD505 j := by
  have hm : ∀ d ∈ ysyL, d ∈ yD505 := fun d hd => by
    unfold ysyL at hd
    simp only [List.mem_cons, List.mem_nil_iff, or_false] at hd
    rcases hd with rfl | rfl | rfl | rfl
    · exact List.mem_of_getElem? (i := 473) rfl
    · exact List.mem_of_getElem? (i := 462) rfl
    · exact List.mem_of_getElem? (i := 2) rfl
    · exact List.mem_of_getElem? (i := 1) rfl
  rcases List.mem_append.mp h with h | h
  · exact List.mem_append_left _ h
  · obtain ⟨d, hd, e⟩ := List.mem_map.mp h
    obtain ⟨m1, m2⟩ := List.mem_filter.mp hd
    exact List.mem_append_right _ (List.mem_map.mpr ⟨d, List.mem_filter.mpr ⟨hm d m1, m2⟩, e⟩)
/-! ===== the law: steps, arguments, calls ===== -/
section YL
variable {p : Program} {l : Launch} {e : Env} {s : State} {m : MethodId} {below : List Frame} {meth : Method} {c : Code} {b L : Nat} {xs : Nat → Int32} {D : va_G} {tA : Nat → ClassId} {ex : List Nat} {sc : List XV}
abbrev yLV (i : Nat) : XL := [(3, .inl ((i : Int), (i : Int))), (2, .inr (.inr (1, 57))), (1, .inr (.inr (1, 0))), (0, .inr (.inr (2, 5)))]
abbrev yv (xs : Nat → Int32) (i : Nat) : Int := (xs i).toInt
theorem yv_rg (i : Nat) : yrg (yv xs i) := x_rng _
theorem yl_at (C0 : lw_At p s m meth c b L xs) (hE : XEnv D vwCl (tysX tA) ex (xSTX ++ [sc]) xSV xNW xNF (fun q : Nat => s.heap.size ≤ q) s) {pc : Nat} {lv : XL} {st : List XV} {w : XW} {k n : Nat} {q : XE} {S' : XS} (hf : xfetch (xm_t xmL) pc = some q) (hi : xins (xcf 20 sc) xMT xFT xFD xTY xTC (xSTX ++ [sc]) xmL q.1 q.2.1 q.2.2.1 q.2.2.2 pc lv st w k n = some (.inl S')) (h : XLS p l e s m b below meth c D tA ex (.inl S')) : XLS p l e s m b below meth c D tA ex (.inl (pc, lv, st, w, k, n)) := xlaw_step (fu := 20) C0 hE _ _ ((xstep_at hf).trans hi) h
theorem yl_call (C0 : lw_At p s m meth c b L xs) (hE : XEnv D vwCl (tysX tA) ex (xSTX ++ [sc]) xSV xNW xNF (fun q : Nat => s.heap.size ≤ q) s) {pc idx a d : Nat} {z : Int} {lv : XL} {st : List XV} {w : XW} {k n : Nat} {N : XM} {ro : Option XV} {w' : XW} (hf : xfetch (xm_t xmL) pc = some (.invokevirtual idx, a, d, z)) (hN : xMT a = some N) (hM : XMet l D vwCl (tysX tA) tA ex (xSTX ++ [sc]) xSV xNW xNF xTs N (st.take d).reverse w ro w') (h1 : d ≤ st.length) (h2 : ((st.drop d).map xcat).sum ≤ 8) (h3 : xm_f N + 1 ≤ xm_f xmL) (h4 : 8 + (xm_l N + 11) + xm_o N ≤ xm_o xmL) (h5 : k + xm_k N ≤ xm_k xmL) (h6 : n + xm_n N ≤ xm_n xmL) (h7 : xrecv w (xm_i N) (st.take d).reverse = true) (h : XLS p l e s m b below meth c D tA ex (.inl (pc + 3, lv, ro.toList ++ st.drop d, w', k + xm_k N, n + xm_n N))) : XLS p l e s m b below meth c D tA ex (.inl (pc, lv, st, w, k, n)) := by
  refine xlaw_call C0 hE hf hN hM ?_ h
  unfold xh_call
  dsimp only
  rw [if_pos ⟨h1, h2, h3, h4, h5, h6, by rw [h7]; rfl⟩]
theorem yl_arg (C0 : lw_At p s m meth c b L xs) (hE : XEnv D vwCl (tysX tA) ex (xSTX ++ [sc]) xSV xNW xNF (fun q : Nat => s.heap.size ≤ q) s) (hsc : ∀ j : Nat, j < L → sc[j]? = some (.inl (yv xs j, yv xs j))) (hl : sc.length = L) {pc i j : Nat} {st : List XV} {w : XW} {k n : Nat} (hj : j ≤ 5) (hi : i + j < L) (hL : L ≤ 3072) (f1 : xfetch (xm_t xmL) pc = some (.aload_n 0, 0, 0, 0)) (f2 : xfetch (xm_t xmL) (pc + 1) = some (.iload_n 3, 0, 0, 0)) (f3 : xfetch (xm_t xmL) (pc + 2) = some (.iconst (j : Int), 0, 0, (j : Int))) (f4 : xfetch (xm_t xmL) (pc + 3) = some (.iadd, 0, 0, 0)) (f5 : xfetch (xm_t xmL) (pc + 4) = some (.iaload, 0, 0, 0)) (h : XLS p l e s m b below meth c D tA ex (.inl (pc + 5, yLV i, .inl (yv xs (i + j), yv xs (i + j)) :: st, w, k, n))) : XLS p l e s m b below meth c D tA ex (.inl (pc, yLV i, st, w, k, n)) := by
  refine yl_at C0 hE (S' := (pc + 1, yLV i, .inr (.inr (2, 5)) :: st, w, k, n)) f1 rfl ?_
  refine yl_at C0 hE (S' := (pc + 2, yLV i, .inl ((i : Int), (i : Int)) :: .inr (.inr (2, 5)) :: st, w, k, n)) f2 rfl ?_
  refine yl_at C0 hE (S' := (pc + 3, yLV i, .inl ((j : Int), (j : Int)) :: .inl ((i : Int), (i : Int)) :: .inr (.inr (2, 5)) :: st, w, k, n)) f3 rfl ?_
  refine yl_at C0 hE (S' := (pc + 4, yLV i, .inl ((i : Int) + (j : Int), (i : Int) + (j : Int)) :: .inr (.inr (2, 5)) :: st, w, k, n)) f4 (sx_iadd (by omega)) ?_
  refine yl_at C0 hE (S' := (pc + 5, yLV i, .inl (yv xs (i + j), yv xs (i + j)) :: st, w, k, n)) f5 ?_ h
  have hr : xread sc ((i : Int) + (j : Int), (i : Int) + (j : Int)) = some (.inl (yv xs (i + j), yv xs (i + j))) := by
    unfold xread
    rw [if_pos ⟨by show (0 : Int) ≤ (i : Int) + (j : Int); omega, by show (i : Int) + (j : Int) < (sc.length : Int); omega⟩, if_pos rfl]
    show sc[((i : Int) + (j : Int)).toNat]? = _
    rw [show ((i : Int) + (j : Int)).toNat = i + j by omega]
    exact hsc _ hi
  show xh_ald 0 0 (xSTX ++ [sc]) (pc + 4) _ (.inl ((i : Int) + (j : Int), (i : Int) + (j : Int)) :: .inr (.inr (2, 5)) :: st) w k n = _
  unfold xh_ald
  dsimp only
  rw [show xarr w (xSTX ++ [sc]) (2, 5) = some (0, sc) from rfl]
  dsimp only
  rw [if_pos (Or.inl rfl), hr]
  rfl
/-- what the law knows of its two objects' world -/
def yW (ks : List Nat) (w : XW) : Prop := yheap yKD ks w ∧ ks[0]? = some 0 ∧ ks[57]? = some 30 ∧ (∀ p p' : Nat, ks[p]? = some 16 → ks[p']? = some 16 → p = p') ∧ ∀ p p' : Nat, ks[p]? = some 20 → ks[p']? = some 20 → p = p'
theorem yW.app {ks tl : List Nat} {w w' : XW} (h : yW ks w) (ht : ∀ k ∈ tl, yfresh k = true) (h' : yheap yKD (ks ++ tl) w') : yW (ks ++ tl) w' := by
  obtain ⟨_, h0, h57, h16, h20⟩ := h
  have old : ∀ (i k : Nat), ks[i]? = some k → (ks ++ tl)[i]? = some k := fun i k hi => by
    rw [List.getElem?_append_left (List.getElem?_eq_some_iff.mp hi).1]
    exact hi
  have back : ∀ (i k : Nat), yfresh k = false → (ks ++ tl)[i]? = some k → ks[i]? = some k := fun i k hk hi => by
    by_cases hlt : i < ks.length
    · rw [List.getElem?_append_left hlt] at hi
      exact hi
    · rw [List.getElem?_append_right (by omega)] at hi
      rw [ht k (List.mem_of_getElem? hi)] at hk
      cases hk
  exact ⟨h', old _ _ h0, old _ _ h57, fun p p' a1 a2 => h16 p p' (back _ _ rfl a1) (back _ _ rfl a2), fun p p' a1 a2 => h20 p p' (back _ _ rfl a1) (back _ _ rfl a2)⟩
/-- a call's outcome -/
def yOut (l : Launch) (D : va_G) (tA : Nat → ClassId) (ex : List Nat) (sc : List XV) (N : XM) (as : List XV) (ks : List Nat) (w : XW) (lng : Bool) : Prop := ∃ (ro : Option XV) (w' : XW) (tl : List Nat), XMet l D vwCl (tysX tA) tA ex (xSTX ++ [sc]) xSV xNW xNF xTs N as w ro w' ∧ yW (ks ++ tl) w' ∧ (∀ k ∈ tl, yfresh k = true) ∧ ∃ x, ro = some x ∧ xkd x = (bif lng then 1 else 0)
theorem yisr_ok {lng : Bool} {A : YA} (h : yisr lng A = true) {ks : List Nat} {nu : Nat → Int} {ro : Option XV} (ha : yans ks nu A.1 ro) : ∃ x, ro = some x ∧ xkd x = (bif lng then 1 else 0) := by
  unfold yisr at h
  split at h
  · rename_i e he
    rw [he] at ha
    obtain ⟨x, h1, h2⟩ := ha
    have h := of_decide_eq_true h
    refine ⟨x, h1, ?_⟩
    rw [yein_kd h2]
    obtain ⟨t, a, b⟩ := e
    dsimp only at h
    subst h
    cases lng with
    | true =>
      show ykd (ysv (2, a, b) 0) = 1
      unfold ysv
      rw [if_neg (show ¬ (2 : Nat) = 0 by decide), if_pos rfl]
      split <;> rfl
    | false =>
      show ykd (ysv (0, a, b) 0) = 0
      unfold ysv
      rw [if_pos rfl]
      split <;> rfl
  · rename_i x he
    rw [he] at ha
    cases lng with
    | true => cases h
    | false => exact ⟨_, ha.1, rfl⟩
  · cases h
end YL
