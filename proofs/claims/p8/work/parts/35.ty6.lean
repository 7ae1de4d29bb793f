/-! ===== what a branch tells ===== -/
def yub (E : List YE) (x : YL) : Option Int := match ylb E (yneg x).2 with
  | some t => some (-((yneg x).1 + t))
  | none => none
theorem yub_ok {E : List YE} {r : Nat → Int} (hE : yok E r) {x : YL} {u : Int} (h : yub E x = some u) : yev r x ≤ u := by
  unfold yub at h
  split at h
  · rename_i t ht
    cases h
    have h1 := ylb_le hE ht
    have h2 : yev r (yneg x) = -yev r x := yneg_ev
    have h3 : yev r (yneg x) = (yneg x).1 + ysum r (yneg x).2 := rfl
    omega
  · cases h
/-- the bounds of one symbol of x, where x is 0 or more -/
def ytg1 (x : YL) (E : List YE) (q : Nat × Int) : List YE := match E[q.1]?, yub E (yadd x (-q.2) (ysym q.1)) with
  | some (0, lo, hi), some u => if q.2 = 1 then E.set q.1 (0, if lo < -u then -u else lo, hi) else if q.2 = -1 then E.set q.1 (0, lo, if u < hi then u else hi) else if q.2 = -2 then E.set q.1 (0, lo, if u / 2 < hi then u / 2 else hi) else E
  | _, _ => E
def yenv (ks : List Nat) (r : YR) (E : List YE) : Prop := ∀ (s : Nat) (e : YE), E[s]? = some e → yein ks e (r s)
theorem yenv.ok {ks : List Nat} {r : YR} {E : List YE} (h : yenv ks r E) : yok E (yi r) := fun s lo hi hs => by
  obtain ⟨z, e1, e2, e3, _⟩ := h s (0, lo, hi) hs
  unfold yi
  rw [e1]
  exact ⟨e2, e3⟩
theorem yenv_set {ks : List Nat} {r : YR} {E : List YE} (h : yenv ks r E) {s : Nat} {e : YE} (he : yein ks e (r s)) : yenv ks r (E.set s e) := fun t e' ht => by
  by_cases hs : s = t
  · subst hs
    by_cases hl : s < E.length
    · rw [List.getElem?_set_self hl] at ht
      cases ht
      exact he
    · rw [List.getElem?_eq_none (by rw [List.length_set]; omega)] at ht
      cases ht
  · rw [List.getElem?_set_ne hs] at ht
    exact h t e' ht
theorem ytg1_ok {ks : List Nat} {r : YR} {x : YL} (hx : 0 ≤ yev (yi r) x) {E : List YE} (h : yenv ks r E) {q : Nat × Int} : yenv ks r (ytg1 x E q) ∧ (ytg1 x E q).length = E.length := by
  unfold ytg1
  split
  · rename_i lo hi u h1 h2
    have h3 := yub_ok h.ok h2
    rw [yadd_ev, ysym_ev] at h3
    obtain ⟨z, e1, e2, e3, e4, e5⟩ := h q.1 _ h1
    have e6 : yi r q.1 = z := by
      unfold yi
      rw [e1]
    rw [e6] at h3
    by_cases hq : q.2 = 1
    · rw [if_pos hq]
      rw [hq] at h3
      refine ⟨yenv_set h ⟨z, e1, ?_, e3, e4, e5⟩, List.length_set⟩
      split
      · omega
      · exact e2
    · rw [if_neg hq]
      by_cases hq2 : q.2 = -1
      · rw [if_pos hq2]
        rw [hq2] at h3
        refine ⟨yenv_set h ⟨z, e1, e2, ?_, e4, e5⟩, List.length_set⟩
        split
        · omega
        · exact e3
      · rw [if_neg hq2]
        by_cases hq3 : q.2 = -2
        · rw [if_pos hq3]
          rw [hq3] at h3
          refine ⟨yenv_set h ⟨z, e1, e2, ?_, e4, e5⟩, List.length_set⟩
          split
          · omega
          · exact e3
        · rw [if_neg hq3]
          exact ⟨h, rfl⟩
  · exact ⟨h, rfl⟩
theorem ytgs_ok {ks : List Nat} {r : YR} {x : YL} (hx : 0 ≤ yev (yi r) x) : ∀ {l : List (Nat × Int)} {E : List YE}, yenv ks r E → yenv ks r (l.foldl (ytg1 x) E) ∧ (l.foldl (ytg1 x) E).length = E.length
  | [], _, h => ⟨h, rfl⟩
  | q :: l, E, h => by
    obtain ⟨a1, a2⟩ := ytg1_ok hx h (q := q)
    obtain ⟨b1, b2⟩ := ytgs_ok hx (l := l) a1
    exact ⟨b1, b2.trans a2⟩
/-- known: x is 0 or more -/
def yasm (K : YF) (x : YL) : YF := (x.2.foldl (ytg1 x) (yf_e K), x :: yf_f K, K.2.2)
theorem yasm_ok {ks : List Nat} {w : XW} {r : YR} {K : YF} {x : YL} (h : yknow ks w r K) (hx : 0 ≤ yev (yi r) x) : yknow ks w r (yasm K x) ∧ (yf_e (yasm K x)).length = (yf_e K).length := by
  obtain ⟨h1, h2, h3⟩ := h
  obtain ⟨a1, a2⟩ := ytgs_ok hx (l := x.2) (show yenv ks r (yf_e K) from h1)
  refine ⟨⟨a1, fun g hg => ?_, h3⟩, a2⟩
  rcases List.mem_cons.mp hg with hg | hg
  · rw [hg]
    exact hx
  · exact h2 g hg
/-- all of these, or that it can't be -/
def yasms (K : YF) : List YL → Option YF
  | [] => some K
  | x :: l => if yprv K (yadd (ycst (-1)) (-1) x) = true then none else yasms (yasm K x) l
theorem yasms_ok {ks : List Nat} {w : XW} {r : YR} : ∀ {l : List YL} {K : YF}, yknow ks w r K → (∀ x ∈ l, 0 ≤ yev (yi r) x) → ∃ K', yasms K l = some K' ∧ yknow ks w r K' ∧ (yf_e K').length = (yf_e K).length
  | [], K, h, _ => ⟨K, rfl, h, rfl⟩
  | x :: l, K, h, hl => by
    have hx := hl x List.mem_cons_self
    unfold yasms
    by_cases hp : yprv K (yadd (ycst (-1)) (-1) x) = true
    · exfalso
      have := yprv_ok h hp
      rw [yadd_ev, ycst_ev] at this
      omega
    · rw [if_neg hp]
      obtain ⟨a1, a2⟩ := yasm_ok h hx
      obtain ⟨K', b1, b2, b3⟩ := yasms_ok (l := l) a1 (fun y hy => hl y (List.mem_cons_of_mem _ hy))
      exact ⟨K', b1, b2, b3.trans a2⟩
/-- x - y - c -/
def ydf (x y : YL) (c : Int) : YL := yadd (yadd x (-1) y) (-1) (ycst c)
theorem ydf_ev {r : Nat → Int} {x y : YL} {c : Int} : yev r (ydf x y c) = yev r x - yev r y - c := by
  unfold ydf
  rw [yadd_ev, yadd_ev, ycst_ev]
  omega
/-- what 'x c y' says: one of these lists -/
def ycnd : ClassFile.Cond → YL → YL → List (List YL)
  | .eq, x, y => [[ydf x y 0, ydf y x 0]]
  | .ne, x, y => [[ydf x y 1], [ydf y x 1]]
  | .lt, x, y => [[ydf y x 1]]
  | .ge, x, y => [[ydf x y 0]]
  | .gt, x, y => [[ydf x y 1]]
  | .le, x, y => [[ydf y x 0]]
def yopp : ClassFile.Cond → ClassFile.Cond
  | .eq => .ne
  | .ne => .eq
  | .lt => .ge
  | .ge => .lt
  | .gt => .le
  | .le => .gt
theorem ycnd_ok {r : Nat → Int} {x y : YL} {c : ClassFile.Cond} : ∃ o, xcmp c (yev r x, yev r x) (yev r y, yev r y) = some o ∧ (o = true → ∃ l ∈ ycnd c x y, ∀ g ∈ l, 0 ≤ yev r g) ∧ (o = false → ∃ l ∈ ycnd (yopp c) x y, ∀ g ∈ l, 0 ≤ yev r g) := by
  have d1 : ∀ c, yev r (ydf x y c) = yev r x - yev r y - c := fun c => ydf_ev
  have d2 : ∀ c, yev r (ydf y x c) = yev r y - yev r x - c := fun c => ydf_ev
  have one : ∀ {g : YL} {L : List (List YL)}, [g] ∈ L → 0 ≤ yev r g → ∃ l ∈ L, ∀ g ∈ l, 0 ≤ yev r g := fun {g L} h1 h2 => ⟨[g], h1, fun g' hg' => by rw [List.mem_singleton.mp hg']; exact h2⟩
  have two : ∀ {g g2 : YL} {L : List (List YL)}, [g, g2] ∈ L → 0 ≤ yev r g → 0 ≤ yev r g2 → ∃ l ∈ L, ∀ g ∈ l, 0 ≤ yev r g := fun {g g2 L} h1 h2 h3 => ⟨[g, g2], h1, fun g' hg' => by
    rcases List.mem_cons.mp hg' with h | h
    · rw [h]
      exact h2
    · rw [List.mem_singleton.mp h]
      exact h3⟩
  cases c with
  | eq =>
    refine ⟨_, xeq_of, fun h => ?_, fun h => ?_⟩
    · have h := of_decide_eq_true h
      exact two (List.mem_cons_self) (by rw [d1]; omega) (by rw [d2]; omega)
    · have h := of_decide_eq_false h
      by_cases hl : yev r x < yev r y
      · exact one (g := ydf y x 1) (List.mem_cons_of_mem _ List.mem_cons_self) (by rw [d2]; omega)
      · exact one (g := ydf x y 1) List.mem_cons_self (by rw [d1]; omega)
  | ne =>
    refine ⟨_, xcne_of, fun h => ?_, fun h => ?_⟩
    · have h := of_decide_eq_true h
      by_cases hl : yev r x < yev r y
      · exact one (g := ydf y x 1) (List.mem_cons_of_mem _ List.mem_cons_self) (by rw [d2]; omega)
      · exact one (g := ydf x y 1) List.mem_cons_self (by rw [d1]; omega)
    · have h := Decidable.not_not.mp (of_decide_eq_false h)
      exact two (List.mem_cons_self) (by rw [d1]; omega) (by rw [d2]; omega)
  | lt =>
    refine ⟨_, xlt_of, fun h => ?_, fun h => ?_⟩
    · have h := of_decide_eq_true h
      exact one List.mem_cons_self (by rw [d2]; omega)
    · have h := of_decide_eq_false h
      exact one List.mem_cons_self (by rw [d1]; omega)
  | ge =>
    refine ⟨_, xge_of, fun h => ?_, fun h => ?_⟩
    · have h := of_decide_eq_true h
      exact one List.mem_cons_self (by rw [d1]; omega)
    · have h := of_decide_eq_false h
      exact one List.mem_cons_self (by rw [d2]; omega)
  | gt =>
    refine ⟨_, xgt_of, fun h => ?_, fun h => ?_⟩
    · have h := of_decide_eq_true h
      exact one List.mem_cons_self (by rw [d1]; omega)
    · have h := of_decide_eq_false h
      exact one List.mem_cons_self (by rw [d2]; omega)
  | le =>
    have e : xcmp .le (yev r x, yev r x) (yev r y, yev r y) = some (decide (yev r x ≤ yev r y)) := by
      show xno (xlt (yev r y, yev r y) (yev r x, yev r x)) = _
      rw [xlt_of]
      by_cases h : yev r y < yev r x
      · simp [h, xno, Int.not_le.mpr h]
      · simp [h, xno, Int.not_lt.mp h]
    refine ⟨_, e, fun h => ?_, fun h => ?_⟩
    · have h := of_decide_eq_true h
      exact one List.mem_cons_self (by rw [d2]; omega)
    · have h := of_decide_eq_false h
      exact one List.mem_cons_self (by rw [d1]; omega)
/-- the states behind a branch: each list that may hold -/
def ybrs (pc : Nat) (lv : List (Nat × YV)) (st : List YV) (K : YF) (L : List (List YL)) : List YO := (L.map (fun l => match yasms K l with
  | some K' => [(.inl (pc, lv, st, K') : YO)]
  | none => [])).flatten
theorem ybrs_ok {ks : List Nat} {w : XW} {r : YR} {K : YF} {pc : Nat} {lv : List (Nat × YV)} {st : List YV} {L : List (List YL)} (h : yknow ks w r K) (hL : ∃ l ∈ L, ∀ g ∈ l, 0 ≤ yev (yi r) g) : ∃ K', (.inl (pc, lv, st, K') : YO) ∈ ybrs pc lv st K L ∧ yknow ks w r K' ∧ (yf_e K').length = (yf_e K).length := by
  obtain ⟨l, hl, hg⟩ := hL
  obtain ⟨K', a1, a2, a3⟩ := yasms_ok h hg
  refine ⟨K', ?_, a2, a3⟩
  unfold ybrs
  refine List.mem_flatten.mpr ⟨[(.inl (pc, lv, st, K') : YO)], List.mem_map.mpr ⟨l, hl, ?_⟩, List.mem_cons_self⟩
  rw [a1]
section YI
variable {f : XS → Option XR} {J : XS → XS → Prop} {Post : Option XV × XW × Nat × Nat → Prop} {KD : Nat → Option YK} {ks : List Nat} {ow : XW → Prop} {n0 : Nat} {r0 : YR} {Y : YS} {outs : List YO}
def yh_icmp (c : ClassFile.Cond) (a : Nat) (Y : YS) : Option (List YO) := match Y.2.2.1 with
  | .inl q :: .inl p :: s => some (ybrs a Y.2.1 s Y.2.2.2 (ycnd c p q) ++ ybrs (Y.1 + 3) Y.2.1 s Y.2.2.2 (ycnd (yopp c) p q))
  | _ => none
theorem yo_icmp {c : ClassFile.Cond} {a : Nat} (h : yh_icmp c a Y = some outs) (hg : ∀ o ∈ outs, ygoodO f J Post KD ks ow n0 r0 o) : yone f J Post KD ks ow n0 r0 Y (fun lv st w => xh_icmp c a Y.1 lv st w 0 0) := by
  unfold yh_icmp at h
  split at h
  · rename_i q p s hs
    cases h
    intro h0 r w lv st hr h1 h2 h3 h4
    rw [hs] at h2
    obtain ⟨x1, st1, e1, a1, x2, st2, e2, a2, a3⟩ := h2
    subst e1
    subst e2
    obtain ⟨rfl, _⟩ := a1
    obtain ⟨rfl, _⟩ := a2
    obtain ⟨o, b1, b2, b3⟩ := ycnd_ok (r := yi r) (x := p) (y := q) (c := c)
    cases o with
    | true =>
      obtain ⟨K', c1, c2, c3⟩ := ybrs_ok (pc := a) (lv := Y.2.1) (st := s) h3 (b2 rfl)
      refine ⟨.inl (a, lv, st2, w, 0, 0), ?_, yuse (hg _ (List.mem_append_left _ c1)) (by rw [c3]; exact h0) hr rfl h1 a3 c2 h4⟩
      show xh_br (xcmp c (yev (yi r) p, yev (yi r) p) (yev (yi r) q, yev (yi r) q)) a Y.1 lv st2 w 0 0 = _
      rw [b1]
      rfl
    | false =>
      obtain ⟨K', c1, c2, c3⟩ := ybrs_ok (pc := Y.1 + 3) (lv := Y.2.1) (st := s) h3 (b3 rfl)
      refine ⟨.inl (Y.1 + 3, lv, st2, w, 0, 0), ?_, yuse (hg _ (List.mem_append_right _ c1)) (by rw [c3]; exact h0) hr rfl h1 a3 c2 h4⟩
      show xh_br (xcmp c (yev (yi r) p, yev (yi r) p) (yev (yi r) q, yev (yi r) q)) a Y.1 lv st2 w 0 0 = _
      rw [b1]
      rfl
  · cases h
theorem xcmp_sgn {c : ClassFile.Cond} {a b a' b' : Int} (h1 : a < b ↔ a' < b') (h2 : a = b ↔ a' = b') : xcmp c (a, a) (b, b) = xcmp c (a', a') (b', b') := by
  have e1 : xlt (a, a) (b, b) = xlt (a', a') (b', b') := by
    rw [xlt_of, xlt_of, decide_eq_decide.mpr h1]
  have e2 : xeq (a, a) (b, b) = xeq (a', a') (b', b') := by
    rw [xeq_of, xeq_of, decide_eq_decide.mpr h2]
  have e3 : xlt (b, b) (a, a) = xlt (b', b') (a', a') := by
    rw [xlt_of, xlt_of, decide_eq_decide.mpr (show b < a ↔ b' < a' by omega)]
  cases c with
  | eq => exact e2
  | ne => exact congrArg xno e2
  | lt => exact e1
  | ge => exact congrArg xno e1
  | gt => exact e3
  | le => exact congrArg xno e3
/-- an int that tells how two longs compare: those two; else itself and 0 -/
def ylck (L : List (Nat × (YL × YL))) (p : YL) : YL × YL := match L.find? (fun q => decide (p = ysym q.1)) with
  | some q => q.2
  | none => (p, ycst 0)
theorem ylck_ok {ks : List Nat} {w : XW} {r : YR} {K : YF} (h : yknow ks w r K) {p : YL} {c : ClassFile.Cond} : xcmp c (yev (yi r) p, yev (yi r) p) (0, 0) = xcmp c (yev (yi r) (ylck (yf_l K) p).1, yev (yi r) (ylck (yf_l K) p).1) (yev (yi r) (ylck (yf_l K) p).2, yev (yi r) (ylck (yf_l K) p).2) := by
  unfold ylck
  split
  · rename_i q hq
    have e0 := List.find?_some hq
    have e1 : p = ysym q.1 := of_decide_eq_true e0
    have e2 := h.2.2.2.2 q (List.mem_of_find?_eq_some hq)
    rw [e1, ysym_ev, e2]
    generalize yev (yi r) q.2.1 = a
    generalize yev (yi r) q.2.2 = b
    have s1 : ysgn a b < 0 ↔ a < b := by
      unfold ysgn
      by_cases h1 : a < b
      · rw [if_pos h1]
        omega
      · rw [if_neg h1]
        by_cases h2 : a = b
        · rw [if_pos h2]
          omega
        · rw [if_neg h2]
          omega
    have s2 : ysgn a b = 0 ↔ a = b := by
      unfold ysgn
      by_cases h1 : a < b
      · rw [if_pos h1]
        omega
      · rw [if_neg h1]
        by_cases h2 : a = b
        · rw [if_pos h2]
          omega
        · rw [if_neg h2]
          omega
    exact xcmp_sgn s1 s2
  · dsimp only
    rw [ycst_ev]
end YI
