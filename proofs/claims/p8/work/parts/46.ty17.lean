/-! ===== a state that comes to a cut ===== -/
theorem xk_get_mem : ∀ {lv : XL} {i : Nat} {x : XV}, xk_get lv i = some x → (i, x) ∈ lv
  | [], _, _, h => by cases h
  | q :: l, i, x, h => by
    unfold xk_get at h
    by_cases hq : q.1 = i
    · rw [if_pos hq] at h
      cases h
      rw [← hq]
      exact List.mem_cons_self
    · rw [if_neg hq] at h
      exact List.mem_cons_of_mem _ (xk_get_mem h)
theorem yrg_div {d a b : Int} (hd : 1 ≤ d) (h : d * a = b) (hb : yrg b) : yrg a := by
  obtain ⟨h1, h2⟩ := hb
  by_cases ha : 0 ≤ a
  · have := Int.mul_le_mul_of_nonneg_right hd ha
    constructor <;> omega
  · have := Int.mul_le_mul_of_nonpos_right hd (show a ≤ 0 by omega)
    constructor <;> omega
theorem ymt_ok {ks : List Nat} {w : XW} {r : YR} {K : YF} {lv : List (Nat × YV)} {lvc : XL} (h3 : yknow ks w r K) (h1 : ylvin r lv lvc) : ∀ {ql : List (Nat × Int × YE)} {vs : List YV}, ymt K lv ql = some vs → vs.length = ql.length ∧ ystin r vs (vs.map (yval r)) ∧ ∃ lc : XL, (∀ q ∈ lc, q ∈ lvc) ∧ ∀ (r' : YR) (k0 : Nat), (∀ (j : Nat) (v : YV), vs[j]? = some v → r' (k0 + j) = yval r v) → ylvin r' (ymk k0 ql) lc ∧ ∀ (j : Nat) (q : Nat × Int × YE), ql[j]? = some q → yein ks q.2.2 (r' (k0 + j))
  | [], vs, h => by
    cases h
    exact ⟨rfl, rfl, [], (fun q hq => by cases hq), fun r' k0 _ => ⟨rfl, fun j q hq => by simp at hq⟩⟩
  | q :: ql, vs, h => by
    unfold ymt at h
    -- what is common to both ways
    have fin : ∀ (v : YV) (X : XV) (vt : List YV), ymt K lv ql = some vt → (q.1, X) ∈ lvc → yvin r v (yval r v) → (∀ (r' : YR) (k0 : Nat), r' k0 = yval r v → yvin r' (ycv q.2.1 q.2.2 k0) X ∧ yein ks q.2.2 (r' k0)) → (v :: vt).length = (q :: ql).length ∧ ystin r (v :: vt) ((v :: vt).map (yval r)) ∧ ∃ lc : XL, (∀ q ∈ lc, q ∈ lvc) ∧ ∀ (r' : YR) (k0 : Nat), (∀ (j : Nat) (u : YV), (v :: vt)[j]? = some u → r' (k0 + j) = yval r u) → ylvin r' (ymk k0 (q :: ql)) lc ∧ ∀ (j : Nat) (q' : Nat × Int × YE), (q :: ql)[j]? = some q' → yein ks q'.2.2 (r' (k0 + j)) := fun v X vt hvt hX hv hk => by
      obtain ⟨a1, a2, lc, a3, a4⟩ := ymt_ok h3 h1 hvt
      refine ⟨by rw [List.length_cons, List.length_cons, a1], ⟨_, _, rfl, hv, a2⟩, (q.1, X) :: lc, fun p hp => ?_, fun r' k0 hr => ?_⟩
      · rcases List.mem_cons.mp hp with hp | hp
        · rw [hp]
          exact hX
        · exact a3 p hp
      · obtain ⟨b1, b2⟩ := hk r' k0 (hr 0 v rfl)
        obtain ⟨c1, c2⟩ := a4 r' (k0 + 1) (fun j u hu => by
          rw [show k0 + 1 + j = k0 + (j + 1) by omega]
          exact hr (j + 1) u (by rw [List.getElem?_cons_succ]; exact hu))
        refine ⟨⟨X, lc, rfl, b1, c1⟩, fun j q' hq' => ?_⟩
        match j, hq' with
        | 0, hq' =>
          rw [List.getElem?_cons_zero] at hq'
          cases hq'
          exact b2
        | j + 1, hq' =>
          rw [List.getElem?_cons_succ] at hq'
          rw [show k0 + (j + 1) = k0 + 1 + j by omega]
          exact c2 j q' hq'
    split at h
    · rename_i x vt hx hvt
      split at h
      · rename_i he
        split at h
        · rename_i y hy
          split at h
          · rename_i hc
            cases h
            obtain ⟨X, g1, g2, g3, g4⟩ := yk_get_ok h1 hx
            have ed : q.2.1 * yev (yi r) y = yev (yi r) x := ydvl_ok hy
            have hry : yrg (yev (yi r) y) := yrg_div he.2 ed ⟨g3, g4⟩
            have hyv : yvin r (.inl y) (.inl (yev (yi r) y, yev (yi r) y)) := ⟨rfl, hry.1, hry.2⟩
            refine fin (.inl y) X vt hvt (xk_get_mem g1) hyv (fun r' k0 hr => ⟨?_, by rw [hr]; exact yeck_ok h3 hyv hc⟩)
            unfold ycv
            rw [if_pos he.1]
            have hin : yein ks q.2.2 (r' k0) := by
              rw [hr]
              exact yeck_ok h3 hyv hc
            have e5 : yi r' k0 = yev (yi r) y := yi_int hr
            have e6 : yev (yi r') (0, [(k0, q.2.1)]) = yev (yi r) x := by
              show 0 + (q.2.1 * yi r' k0 + 0) = yev (yi r) x
              rw [e5, ed]
              omega
            split
            · rename_i hlh
              have e7 : q.2.1 * q.2.2.2.1 = yev (yi r) x := by
                have hq0 := he.1
                obtain ⟨q1, q2, qt, qlo, qhi⟩ := q
                dsimp only at hin hlh ed hq0 ⊢
                subst hq0
                subst hlh
                obtain ⟨z, z1, z2, z3, _⟩ := hin
                rw [hr] at z1
                have z4 : yev (yi r) y = z := congrArg (fun u => match u with
                  | .inl q => q.1
                  | _ => 0) z1
                have : qlo = yev (yi r) y := by omega
                rw [this]
                exact ed
              show X = .inl (yev (yi r') (ycst (q.2.1 * q.2.2.2.1)), yev (yi r') (ycst (q.2.1 * q.2.2.2.1))) ∧ _ ∧ _
              rw [ycst_ev, e7]
              exact ⟨g2, g3, g4⟩
            · show X = .inl (yev (yi r') (0, [(k0, q.2.1)]), yev (yi r') (0, [(k0, q.2.1)])) ∧ _ ∧ _
              rw [e6]
              exact ⟨g2, g3, g4⟩
          · cases h
        · cases h
      · cases h
    · rename_i v vt hno hx hvt
      split at h
      · rename_i hc
        cases h
        obtain ⟨X, g1, g2⟩ := yk_get_ok h1 hx
        have eX := yval_of g2
        refine fin v X vt hvt (xk_get_mem g1) (eX ▸ g2) (fun r' k0 hr => ?_)
        have hX : yein ks q.2.2 X := yeck_ok h3 g2 hc.2
        rw [← eX] at hr
        refine ⟨?_, by rw [hr]; exact hX⟩
        unfold ycv
        rw [if_neg hc.1]
        exact ysv_in hr hX
      · cases h
    · cases h
theorem ysy_ok {ks : List Nat} {w : XW} {r : YR} {K : YF} (h3 : yknow ks w r K) {v : YV} {s : Nat} (h : ysy K v = some s) : r s = yval r v := by
  unfold ysy at h
  split at h
  · cases h
    rfl
  · split at h
    · rename_i he
      cases h
      obtain ⟨z, e1, _⟩ := h3.1 s _ he
      have e2 : yi r s = z := by
        unfold yi
        rw [e1]
      show r s = .inl (0 + (1 * yi r s + 0), 0 + (1 * yi r s + 0))
      rw [e2, e1, show 0 + (1 * z + 0) = z by omega]
    · cases h
  · cases h
theorem ymtg_ok {KD : Nat → Option YK} {ks : List Nat} {w : XW} {r : YR} {K : YF} (h3 : yknow ks w r K) (h4 : yheap KD ks w) {vl : List YV} {r' : YR} (hvl : ∀ (j : Nat) (v : YV), vl[j]? = some v → r' j = yval r v) : ∀ {gl : List (Nat × Nat × YE)} {vs : List YV}, ymtg K vl gl = some vs → vs.length = gl.length ∧ ystin r vs (vs.map (yval r)) ∧ ∀ (k0 : Nat), (∀ (j : Nat) (v : YV), vs[j]? = some v → r' (k0 + j) = yval r v) → (∀ q ∈ ymg k0 gl, ∃ x, ygf ks w (r' q.1.1) q.1.2 x ∧ yvin r' q.2 x) ∧ ∀ (j : Nat) (q : Nat × Nat × YE), gl[j]? = some q → yein ks q.2.2 (r' (k0 + j))
  | [], vs, h => by
    cases h
    exact ⟨rfl, rfl, fun k0 _ => ⟨(fun q hq => by cases hq), fun j q hq => by simp at hq⟩⟩
  | q :: gl, vs, h => by
    have fin : ∀ (v : YV) (x : XV) (vt : List YV), ymtg K vl gl = some vt → ygf ks w (r' q.1) q.2.1 x → yvin r v x → yein ks q.2.2 x → (v :: vt).length = (q :: gl).length ∧ ystin r (v :: vt) ((v :: vt).map (yval r)) ∧ ∀ (k0 : Nat), (∀ (j : Nat) (u : YV), (v :: vt)[j]? = some u → r' (k0 + j) = yval r u) → (∀ p ∈ ymg k0 (q :: gl), ∃ x, ygf ks w (r' p.1.1) p.1.2 x ∧ yvin r' p.2 x) ∧ ∀ (j : Nat) (q' : Nat × Nat × YE), (q :: gl)[j]? = some q' → yein ks q'.2.2 (r' (k0 + j)) := fun v x vt hvt d1 d4 hx => by
      obtain ⟨a1, a2, a3⟩ := ymtg_ok h3 h4 hvl hvt
      have ex := yval_of d4
      refine ⟨by rw [List.length_cons, List.length_cons, a1], ⟨_, _, rfl, ex ▸ d4, a2⟩, fun k0 hr => ?_⟩
      have hr0 : r' k0 = x := (hr 0 v rfl).trans ex.symm
      obtain ⟨b1, b2⟩ := a3 (k0 + 1) (fun j u hu => by
        rw [show k0 + 1 + j = k0 + (j + 1) by omega]
        exact hr (j + 1) u (by rw [List.getElem?_cons_succ]; exact hu))
      refine ⟨fun q' hq' => ?_, fun j q' hq' => ?_⟩
      · rcases List.mem_cons.mp hq' with hq' | hq'
        · subst hq'
          exact ⟨x, d1, ysv_in hr0 hx⟩
        · exact b1 q' hq'
      · match j, hq' with
        | 0, hq' =>
          rw [List.getElem?_cons_zero] at hq'
          cases hq'
          show yein ks q.2.2 (r' k0)
          rw [hr0]
          exact hx
        | j + 1, hq' =>
          rw [List.getElem?_cons_succ] at hq'
          rw [show k0 + (j + 1) = k0 + 1 + j by omega]
          exact b2 j q' hq'
    unfold ymtg at h
    split at h
    · rename_i v vt hs hvt
      split at h
      · rename_i s hsy
        split at h
        · rename_i p hp
          split at h
          · rename_i hc
            cases h
            have e0 := List.find?_some hp
            have e1 : p.1 = (s, q.2.1) := of_decide_eq_true e0
            obtain ⟨x, d1, d4⟩ := h3.2.2.1 p (List.mem_of_find?_eq_some hp)
            rw [e1] at d1
            have d1 : ygf ks w (r s) q.2.1 x := d1
            rw [ysy_ok h3 hsy, ← hvl q.1 _ hs] at d1
            exact fin p.2 x vt hvt d1 d4 (yeck_ok h3 d4 hc)
          · cases h
        · split at h
          · rename_i hc
            cases h
            obtain ⟨c1, c2, c3⟩ := hc
            rw [Bool.and_eq_true] at c3
            have ev := of_decide_eq_true c3.2
            refine fin (.inl (ycst 1)) (.inl (1, 1)) vt hvt ?_ ⟨by rw [ycst_ev], by rw [ycst_ev]; decide, by rw [ycst_ev]; decide⟩ (by rw [c2]; exact ⟨1, rfl, by decide, by decide, by decide, by decide⟩)
            rw [c1, hvl q.1 _ hs, ev]
            show ygf ks w (r s) 103 _
            have hk : yki K s = some 30 := by
              have c4 := c3.1
              unfold yd103 at c4
              rw [Bool.and_eq_true] at c4
              exact of_decide_eq_true c4.1
            have c4 := c3.1
            -- the symbol is a reference
            have hr30 : ∃ i, r s = .inr (.inr (1, i)) := by
              unfold yd103 at c4
              rw [Bool.and_eq_true] at c4
              obtain ⟨p, hp, hc5⟩ := List.any_eq_true.mp c4.2
              rw [Bool.and_eq_true] at hc5
              have e1 : p.1 = (s, 36) := of_decide_eq_true hc5.1
              obtain ⟨y0, b1, _⟩ := h3.2.2.1 p hp
              rw [e1] at b1
              have b1 : ygf ks w (r s) 36 y0 := b1
              obtain ⟨i, c, fs, g1, _⟩ := ygf_lt (by decide) b1
              exact ⟨i, g1⟩
            obtain ⟨i, hi⟩ := hr30
            rw [hi]
            exact Or.inr (Or.inr (Or.inl ⟨rfl, 1, rfl, by decide, by decide, fun _ => yd103_ok h3 h4.2 hi c3.1⟩))
          · cases h
      · cases h
    · cases h
theorem ymta_ok {ks : List Nat} {w : XW} {r : YR} {K : YF} (h3 : yknow ks w r K) {vl vg : List YV} {r' : YR} (hvl : ∀ (j : Nat) (v : YV), (vl ++ vg)[j]? = some v → r' j = yval r v) : ∀ {al : List (Nat × Nat × YE)} {vs : List YV}, ymta K vl vg al = some vs → vs.length = al.length ∧ ystin r vs (vs.map (yval r)) ∧ ∀ (k0 : Nat), (∀ (j : Nat) (v : YV), vs[j]? = some v → r' (k0 + j) = yval r v) → (∀ q ∈ yma k0 al, ∃ x, yga w (r' q.1.1) (yev (yi r') q.1.2) x ∧ yvin r' q.2 x) ∧ ∀ (j : Nat) (q : Nat × Nat × YE), al[j]? = some q → yein ks q.2.2 (r' (k0 + j))
  | [], vs, h => by
    cases h
    exact ⟨rfl, rfl, fun k0 _ => ⟨(fun q hq => by cases hq), fun j q hq => by simp at hq⟩⟩
  | q :: al, vs, h => by
    unfold ymta at h
    split at h
    · rename_i s x vt hs hi hvt
      split at h
      · rename_i p hp
        split at h
        · rename_i hc
          cases h
          obtain ⟨a1, a2, a3⟩ := ymta_ok h3 hvl hvt
          have e0 := List.find?_some hp
          have e1 : p.1 = (s, x) := of_decide_eq_true e0
          obtain ⟨X, d1, d4⟩ := h3.2.2.2.1 p (List.mem_of_find?_eq_some hp)
          rw [e1] at d1
          have d1 : yga w (r s) (yev (yi r) x) X := d1
          have hx := yeck_ok h3 d4 hc
          have ex := yval_of d4
          have er : r' q.1 = r s := hvl q.1 _ hs
          have ei : yi r' q.2.1 = yev (yi r) x := yi_int (hvl q.2.1 (.inl x) (by
            rw [List.getElem?_append_left (List.getElem?_eq_some_iff.mp hi).1]
            exact hi))
          refine ⟨by rw [List.length_cons, List.length_cons, a1], ⟨_, _, rfl, ex ▸ d4, a2⟩, fun k0 hr => ?_⟩
          have hr0 : r' k0 = X := (hr 0 p.2 rfl).trans ex.symm
          obtain ⟨b1, b2⟩ := a3 (k0 + 1) (fun j u hu => by
            rw [show k0 + 1 + j = k0 + (j + 1) by omega]
            exact hr (j + 1) u (by rw [List.getElem?_cons_succ]; exact hu))
          refine ⟨fun q' hq' => ?_, fun j q' hq' => ?_⟩
          · rcases List.mem_cons.mp hq' with hq' | hq'
            · subst hq'
              refine ⟨X, ?_, ysv_in hr0 hx⟩
              show yga w (r' q.1) (yev (yi r') (ysym q.2.1)) X
              rw [er, ysym_ev, ei]
              exact d1
            · exact b1 q' hq'
          · match j, hq' with
            | 0, hq' =>
              rw [List.getElem?_cons_zero] at hq'
              cases hq'
              show yein ks q.2.2 (r' k0)
              rw [hr0]
              exact hx
            | j + 1, hq' =>
              rw [List.getElem?_cons_succ] at hq'
              rw [show k0 + (j + 1) = k0 + 1 + j by omega]
              exact b2 j q' hq'
        · cases h
      · cases h
    · cases h
/-- the state has come to the cut, its facts hold, its measure has fallen below mu -/
def ymatch (mu : Option YL) (C : YCut) (Y : YS) : Bool := match Y.2.2.1, ymt Y.2.2.2 Y.2.1 (yc_l C) with
  | [], some vl => (match ymtg Y.2.2.2 vl (yc_g C) with
    | some vg => (match ymta Y.2.2.2 vl vg (yc_a C) with
      | some va => decide (Y.1 = C.1) && ((yc_f C).all (fun g => ylin ((vl ++ vg) ++ va).length g && yprv Y.2.2.2 (ysbst (ylins ((vl ++ vg) ++ va)) g)) && (ylin ((vl ++ vg) ++ va).length (yc_m C) && (match mu with
        | some m => yprv Y.2.2.2 (ydf m (ysbst (ylins ((vl ++ vg) ++ va)) (yc_m C)) 1)
        | none => true)))
      | none => false)
    | none => false)
  | _, _ => false
theorem ymatch_ok {KD : Nat → Option YK} {ks : List Nat} {ow : XW → Prop} {w : XW} {r : YR} {mu : Option YL} {C : YCut} {Y : YS} (h : ymatch mu C Y = true) {lv : XL} {st : List XV} (h1 : ylvin r Y.2.1 lv) (h2 : ystin r Y.2.2.1 st) (h3 : yknow ks w r Y.2.2.2) (h4 : yhp KD ks ow w) : st = [] ∧ Y.1 = C.1 ∧ ∃ (r' : YR) (lc : XL), (∀ q ∈ lc, q ∈ lv) ∧ ysat KD ks ow w r' (yst C) (C.1, lc, [], w, 0, 0) ∧ (∀ m, mu = some m → yev (yi r') (yc_m C) < yev (yi r) m) := by
  unfold ymatch at h
  split at h
  · rename_i vl hs hvl
    rw [hs] at h2
    have h2 : st = [] := h2
    subst h2
    split at h
    · rename_i vg hvg
      split at h
      · rename_i va hva
        rw [Bool.and_eq_true, Bool.and_eq_true, Bool.and_eq_true] at h
        obtain ⟨c1, c2, c3, c4⟩ := h
        have c1 := of_decide_eq_true c1
        obtain ⟨a1, a2, lc, a3, a4⟩ := ymt_ok h3 h1 hvl
        -- the values of the cut's symbols
        have hR : ∀ (j : Nat) (v : YV), ((vl ++ vg) ++ va)[j]? = some v → yvl r ((vl ++ vg) ++ va) j = yval r v := fun j v hv => by
          unfold yvl
          rw [hv]
        have hRg : ∀ (j : Nat) (v : YV), (vl ++ vg)[j]? = some v → yvl r ((vl ++ vg) ++ va) j = yval r v := fun j v hv => hR j v (by
          rw [List.getElem?_append_left (List.getElem?_eq_some_iff.mp hv).1]
          exact hv)
        have hRl : ∀ (j : Nat) (v : YV), vl[j]? = some v → yvl r ((vl ++ vg) ++ va) j = yval r v := fun j v hv => hRg j v (by
          rw [List.getElem?_append_left (List.getElem?_eq_some_iff.mp hv).1]
          exact hv)
        obtain ⟨b1, b2, b3⟩ := ymtg_ok h3 h4.1 hRl hvg
        obtain ⟨f1, f2, f3⟩ := ymta_ok h3 hRg hva
        obtain ⟨d1, d2⟩ := a4 (yvl r ((vl ++ vg) ++ va)) 0 (fun j v hv => by
          rw [Nat.zero_add]
          exact hRl j v hv)
        obtain ⟨e1, e2⟩ := b3 vl.length (fun j v hv => hRg _ v (by
          rw [List.getElem?_append_right (Nat.le_add_right _ _), Nat.add_sub_cancel_left]
          exact hv))
        obtain ⟨g1, g2⟩ := f3 (vl ++ vg).length (fun j v hv => hR _ v (by
          rw [List.getElem?_append_right (Nat.le_add_right _ _), Nat.add_sub_cancel_left]
          exact hv))
        have hst : ystin r ((vl ++ vg) ++ va) (((vl ++ vg) ++ va).map (yval r)) := by
          rw [List.map_append, List.map_append]
          exact ystin_app f2 (ystin_app b2 a2)
        obtain ⟨l1, l2⟩ := ylins_ok hst
        have hlen : (ylins ((vl ++ vg) ++ va)).length = ((vl ++ vg) ++ va).length := by
          rw [l1, List.length_map]
        have hT : ∀ (i : Nat) (x : YL), (ylins ((vl ++ vg) ++ va))[i]? = some x → yev (yi r) x = yi (yvl r ((vl ++ vg) ++ va)) i := fun i x hx => by
          rw [l2 i x hx]
          have hi : i < ((vl ++ vg) ++ va).length := by
            rw [← hlen]
            exact (List.getElem?_eq_some_iff.mp hx).1
          obtain ⟨v, hv⟩ : ∃ v, ((vl ++ vg) ++ va)[i]? = some v := ⟨_, List.getElem?_eq_getElem hi⟩
          unfold ynu
          rw [List.getElem?_map, hv]
          show ynum (yval r v) = yi (yvl r ((vl ++ vg) ++ va)) i
          rw [← hR i v hv]
          rfl
        refine ⟨rfl, c1, yvl r ((vl ++ vg) ++ va), lc, a3, ⟨lc, [], rfl, d1, rfl, ⟨fun s e hse => ?_, fun g hg => ?_, ?_, ?_, (fun q hq => by cases hq)⟩, h4⟩, fun m hm => ?_⟩
        · have hse : ((yc_l C).map (fun q => q.2.2) ++ ((yc_g C).map (fun q => q.2.2) ++ (yc_a C).map (fun q => q.2.2)))[s]? = some e := hse
          by_cases hs : s < (yc_l C).length
          · rw [List.getElem?_append_left (by rw [List.length_map]; exact hs), List.getElem?_map] at hse
            obtain ⟨q, hq1, hq2⟩ := Option.map_eq_some_iff.mp hse
            have := d2 s q hq1
            rw [Nat.zero_add] at this
            rw [← hq2]
            exact this
          · rw [List.getElem?_append_right (by rw [List.length_map]; omega), List.length_map] at hse
            by_cases hs2 : s - (yc_l C).length < (yc_g C).length
            · rw [List.getElem?_append_left (by rw [List.length_map]; exact hs2), List.getElem?_map] at hse
              obtain ⟨q, hq1, hq2⟩ := Option.map_eq_some_iff.mp hse
              have := e2 _ q hq1
              rw [a1, show (yc_l C).length + (s - (yc_l C).length) = s by omega] at this
              rw [← hq2]
              exact this
            · rw [List.getElem?_append_right (by rw [List.length_map]; omega), List.length_map, List.getElem?_map] at hse
              obtain ⟨q, hq1, hq2⟩ := Option.map_eq_some_iff.mp hse
              have := g2 _ q hq1
              rw [List.length_append, a1, b1, show (yc_l C).length + (yc_g C).length + (s - (yc_l C).length - (yc_g C).length) = s by omega] at this
              rw [← hq2]
              exact this
        · have hg2 := List.all_eq_true.mp c2 g hg
          rw [Bool.and_eq_true] at hg2
          have := yprv_ok h3 hg2.2
          rw [ysbst_ev hT (by rw [hlen]; exact hg2.1)] at this
          exact this
        · intro q hq
          have hq : q ∈ ymg (yc_l C).length (yc_g C) := hq
          rw [← a1] at hq
          exact e1 q hq
        · intro q hq
          have hq : q ∈ yma ((yc_l C).length + (yc_g C).length) (yc_a C) := hq
          rw [← a1, ← b1, ← List.length_append] at hq
          exact g1 q hq
        · subst hm
          have := yprv_ok h3 c4
          rw [ydf_ev, ysbst_ev hT (by rw [hlen]; exact c3)] at this
          omega
      · cases h
    · cases h
  · cases h
