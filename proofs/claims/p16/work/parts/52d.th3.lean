/-! ===== by hand: cells that are made ===== -/
theorem yein_app {ks tl : List Nat} {v : XV} : ∀ {e : YE}, yein ks e v → yein (ks ++ tl) e v
  | (0, _, _), h => h
  | (1, _, _), h => by
    rcases h with h | ⟨i, h1, h2⟩
    · exact Or.inl h
    · exact Or.inr ⟨i, h1, by rw [List.getElem?_append_left (List.getElem?_eq_some_iff.mp h2).1]; exact h2⟩
  | (2, _, _), h => h
  | (_ + 3, _, _), h => h
theorem yany_app {ks tl : List Nat} {es : List YE} {v : XV} (h : yany ks es v) : yany (ks ++ tl) es v := by
  obtain ⟨e, h1, h2⟩ := h
  exact ⟨e, h1, yein_app h2⟩
theorem ycell_app {ks tl : List Nat} : ∀ {d : YK} {c : XC}, ycell ks d c → ycell (ks ++ tl) d c
  | .inl _, .inl _, ⟨h1, h2, h3⟩ => ⟨h1, h2, fun f es v a b => yany_app (h3 f es v a b)⟩
  | .inr _, .inr _, ⟨h1, h2, h3⟩ => ⟨h1, h2, fun i v a => yany_app (h3 i v a)⟩
/-- kinds whose cells may be made -/
def yfresh (k : Nat) : Bool := k == 17 || (k == 18 || (k == 19 || k == 21))
theorem yheap_new {KD : Nat → Option YK} {ks : List Nat} {w : XW} (h : yheap KD ks w) {k : Nat} {d : YK} {c : XC} (hd : KD k = some d) (hc : ycell (ks ++ [k]) d c) (hf : yfresh k = true) (h17 : k = 17 → ∀ (n : Nat) (fs : List XV) (z : Int), c = .inl (n, fs) → fs[0]? = some (.inl (3, 3)) → fs[3]? = some (.inl (z, z)) → 0 ≤ z ∧ z ≤ 4) : yheap KD (ks ++ [k]) (w ++ [c]) := by
  obtain ⟨⟨hl, hh⟩, s1, s2, s3, s4, s5, s6, s7, s8⟩ := h
  have hk : k = 17 ∨ k = 18 ∨ k = 19 ∨ k = 21 := by
    unfold yfresh at hf
    simp at hf
    omega
  -- an index of another kind lies in front
  have fr : ∀ (i k' : Nat), (ks ++ [k])[i]? = some k' → k' ≠ k → ks[i]? = some k' ∧ (w ++ [c])[i]? = w[i]? := fun i k' hi hne => by
    by_cases hlt : i < ks.length
    · rw [List.getElem?_append_left hlt] at hi
      exact ⟨hi, List.getElem?_append_left (by omega)⟩
    · rw [List.getElem?_append_right (by omega)] at hi
      by_cases h0 : i - ks.length = 0
      · rw [h0] at hi
        exact absurd (Option.some.inj hi).symm hne
      · rw [List.getElem?_eq_none (by simp; omega)] at hi
        cases hi
  refine ⟨⟨by simp [hl], fun i k' hi => ?_⟩, fun k' hk' p p' h1 h2 => ?_, fun p p' h1 h2 => ?_, fun p p' h1 h2 => ?_, fun p p' h1 h2 => ?_, fun i p c' fs n t es j h1 h2 h3 h4 h5 h6 => ?_, fun i p c' fs n t es j h1 h2 h3 h4 h5 h6 => ?_, fun i c' fs z h1 h2 h3 h4 => ?_, fun i p q c' fs n t a u b j z h1 h2 h3 h4 h5 h6 h7 h8 h9 h10 => ?_⟩
  · by_cases hlt : i < ks.length
    · rw [List.getElem?_append_left hlt] at hi
      obtain ⟨d', c', a1, a2, a3⟩ := hh i k' hi
      exact ⟨d', c', a1, by rw [List.getElem?_append_left (by omega)]; exact a2, ycell_app a3⟩
    · have hi2 := hi
      rw [List.getElem?_append_right (by omega)] at hi2
      by_cases h0 : i - ks.length = 0
      · rw [h0] at hi2
        have e := Option.some.inj hi2
        have e : k = k' := e
        subst e
        refine ⟨d, c, hd, ?_, hc⟩
        rw [List.getElem?_append_right (by omega), show i - w.length = 0 by omega]
        rfl
      · rw [List.getElem?_eq_none (by simp; omega)] at hi2
        cases hi2
  · exact s1 k' hk' p p' (fr p k' h1 (by omega)).1 (fr p' k' h2 (by omega)).1
  · exact s2 p p' (fr p 58 h1 (by omega)).1 (fr p' 58 h2 (by omega)).1
  · exact s3 p p' (fr p 61 h1 (by omega)).1 (fr p' 61 h2 (by omega)).1
  · exact s4 p p' (fr p 30 h1 (by omega)).1 (fr p' 30 h2 (by omega)).1
  · obtain ⟨a1, a2⟩ := fr i 0 h1 (by omega)
    obtain ⟨b1, b2⟩ := fr p 16 h2 (by omega)
    exact s5 i p c' fs n t es j a1 b1 (a2.symm.trans h3) h4 (b2.symm.trans h5) h6
  · obtain ⟨a1, a2⟩ := fr i 0 h1 (by omega)
    obtain ⟨b1, b2⟩ := fr p 20 h2 (by omega)
    exact s6 i p c' fs n t es j a1 b1 (a2.symm.trans h3) h4 (b2.symm.trans h5) h6
  · by_cases h17' : k = 17
    · by_cases hlt : i < ks.length
      · rw [List.getElem?_append_left hlt] at h1
        rw [List.getElem?_append_left (by omega)] at h2
        exact s7 i c' fs z h1 h2 h3 h4
      · have h1' := (List.getElem?_eq_some_iff.mp h1).1
        rw [List.length_append] at h1'
        have h1' : i < ks.length + 1 := h1'
        rw [List.getElem?_append_right (by omega), show i - w.length = 0 by omega] at h2
        exact h17 h17' c' fs z (Option.some.inj h2) h3 h4
    · obtain ⟨a1, a2⟩ := fr i 17 h1 (fun e => h17' e.symm)
      exact s7 i c' fs z a1 (a2.symm.trans h2) h3 h4
  · obtain ⟨a1, a2⟩ := fr i 30 h1 (by omega)
    obtain ⟨b1, b2⟩ := fr p 58 h2 (by omega)
    obtain ⟨d1, d2⟩ := fr q 61 h3 (by omega)
    exact s8 i p q c' fs n t a u b j z a1 b1 d1 (a2.symm.trans h4) h5 (b2.symm.trans h6) (d2.symm.trans h7) h8 h9 h10
/-- a field that may be one thing alone -/
theorem yfld {KD : Nat → Option YK} {ks : List Nat} {w : XW} (h : yheap KD ks w) {i k : Nat} (hk : ks[i]? = some k) {cl : Nat} {fa : List (List YE)} (hd : KD k = some (.inl (cl, fa))) {c : Nat} {fs : List XV} (hw : w[i]? = some (.inl (c, fs))) (g : Nat) {e : YE} (hg : fa[g]? = some [e]) : ∃ v, fs[g]? = some v ∧ yein ks e v := by
  obtain ⟨fs', a1, a2, a3⟩ := yheap_f h hk hd
  rw [hw] at a1
  cases a1
  have hl : g < fs.length := by
    rw [a2]
    exact (List.getElem?_eq_some_iff.mp hg).1
  obtain ⟨v, hv⟩ : ∃ v, fs[g]? = some v := ⟨_, List.getElem?_eq_getElem hl⟩
  obtain ⟨e', e1, e2⟩ := a3 g _ v hg hv
  rw [List.mem_singleton.mp e1] at e2
  exact ⟨v, hv, e2⟩
theorem yrf {ks : List Nat} {k : Int} {v : XV} (h : yein ks (1, k, 0) v) : ∃ i, v = .inr (.inr (1, i)) ∧ ks[i]? = some k.toNat := h.resolve_left (fun hh => absurd hh.1 (by decide))
theorem sy_put {c g : Nat} {ty : FieldType} {pc : Nat} {lv : XL} {st : List XV} {w : XW} {k n q : Nat} {fs : List XV} {v : XV} (hw : w[q]? = some (.inl (c, fs))) (hg : g < fs.length) (hf : xfit ty v = true) : xh_put c g (some ty) pc lv (v :: .inr (.inr (1, q)) :: st) w k n = some (.inl (pc + 3, lv, st, w.set q (.inl (c, fs.set g v)), k, n)) := by
  unfold xh_put
  dsimp only
  rw [if_pos rfl, hw]
  dsimp only
  rw [if_pos ⟨rfl, hg, hf⟩]
theorem yapp_at {w : XW} {c : XC} {tl : XW} : (w ++ c :: tl)[w.length]? = some c := by
  rw [List.getElem?_append_right (Nat.le_refl _), Nat.sub_self]
  rfl
theorem yapp_set {w : XW} {c c' : XC} {tl : XW} : (w ++ c :: tl).set w.length c' = w ++ c' :: tl := by
  rw [List.set_append_right _ _ (Nat.le_refl _), Nat.sub_self]
  rfl
theorem sy_putA {c g : Nat} {ty : FieldType} {pc : Nat} {lv : XL} {st : List XV} {w tl : XW} {k n : Nat} {fs : List XV} {v : XV} (hg : g < fs.length) (hf : xfit ty v = true) : xh_put c g (some ty) pc lv (v :: .inr (.inr (1, w.length)) :: st) (w ++ .inl (c, fs) :: tl) k n = some (.inl (pc + 3, lv, st, w ++ .inl (c, fs.set g v) :: tl, k, n)) := by
  rw [sy_put yapp_at hg hf, yapp_set]
theorem ylk_init {l : Launch} {D : va_G} {tA : Nat → ClassId} {ex : List Nat} {sc : List XV} {w tl : XW} {x0 x1 x2 x3 : XV} {a b c d : Int} : XMet l D vwCl (tysX tA) tA ex (xSTX ++ [sc]) xSV xNW xNF xTs xm73 [.inr (.inr (1, w.length)), .inl (a, a), .inl (b, b), .inl (c, c), .inl (d, d)] (w ++ .inl (2, [x0, x1, x2, x3]) :: tl) none (w ++ .inl (2, [.inl (a, a), .inl (b, b), .inl (c, c), .inl (d, d)]) :: tl) := by
  obtain ⟨ro, w', m1, m2⟩ := yco_of (l := l) (D := D) (tA := tA) (ex := ex) (sc := sc) (M := xm73) (j := 73) (as := [.inr (.inr (1, w.length)), .inl (a, a), .inl (b, b), .inl (c, c), .inl (d, d)]) (w := w ++ .inl (2, [x0, x1, x2, x3]) :: tl) (Post := fun q => q = (none, w ++ .inl (2, [.inl (a, a), .inl (b, b), .inl (c, c), .inl (d, d)]) :: tl, 0, 0)) rfl (Nat.le_of_ble_eq_true rfl) (fun q hq => by rw [hq]) (by
    refine yreach.at (S' := (1, [(0, .inr (.inr (1, w.length))), (1, .inl (a, a)), (2, .inl (b, b)), (3, .inl (c, c)), (4, .inl (d, d))], [.inr (.inr (1, w.length))], w ++ .inl (2, [x0, x1, x2, x3]) :: tl, 0, 0)) (q := _) rfl rfl ?_
    refine yreach.at (S' := (4, [(0, .inr (.inr (1, w.length))), (1, .inl (a, a)), (2, .inl (b, b)), (3, .inl (c, c)), (4, .inl (d, d))], [], w ++ .inl (2, [x0, x1, x2, x3]) :: tl, 0, 0)) (q := _) rfl rfl ?_
    refine yreach.at (S' := (5, [(0, .inr (.inr (1, w.length))), (1, .inl (a, a)), (2, .inl (b, b)), (3, .inl (c, c)), (4, .inl (d, d))], [.inr (.inr (1, w.length))], w ++ .inl (2, [x0, x1, x2, x3]) :: tl, 0, 0)) (q := _) rfl rfl ?_
    refine yreach.at (S' := (6, [(0, .inr (.inr (1, w.length))), (1, .inl (a, a)), (2, .inl (b, b)), (3, .inl (c, c)), (4, .inl (d, d))], [.inl (a, a), .inr (.inr (1, w.length))], w ++ .inl (2, [x0, x1, x2, x3]) :: tl, 0, 0)) (q := _) rfl rfl ?_
    refine yreach.at (S' := (9, [(0, .inr (.inr (1, w.length))), (1, .inl (a, a)), (2, .inl (b, b)), (3, .inl (c, c)), (4, .inl (d, d))], [], w ++ .inl (2, [.inl (a, a), x1, x2, x3]) :: tl, 0, 0)) (q := _) rfl (sy_putA (Nat.le_of_ble_eq_true rfl) rfl) ?_
    refine yreach.at (S' := (10, [(0, .inr (.inr (1, w.length))), (1, .inl (a, a)), (2, .inl (b, b)), (3, .inl (c, c)), (4, .inl (d, d))], [.inr (.inr (1, w.length))], w ++ .inl (2, [.inl (a, a), x1, x2, x3]) :: tl, 0, 0)) (q := _) rfl rfl ?_
    refine yreach.at (S' := (11, [(0, .inr (.inr (1, w.length))), (1, .inl (a, a)), (2, .inl (b, b)), (3, .inl (c, c)), (4, .inl (d, d))], [.inl (b, b), .inr (.inr (1, w.length))], w ++ .inl (2, [.inl (a, a), x1, x2, x3]) :: tl, 0, 0)) (q := _) rfl rfl ?_
    refine yreach.at (S' := (14, [(0, .inr (.inr (1, w.length))), (1, .inl (a, a)), (2, .inl (b, b)), (3, .inl (c, c)), (4, .inl (d, d))], [], w ++ .inl (2, [.inl (a, a), .inl (b, b), x2, x3]) :: tl, 0, 0)) (q := _) rfl (sy_putA (Nat.le_of_ble_eq_true rfl) rfl) ?_
    refine yreach.at (S' := (15, [(0, .inr (.inr (1, w.length))), (1, .inl (a, a)), (2, .inl (b, b)), (3, .inl (c, c)), (4, .inl (d, d))], [.inr (.inr (1, w.length))], w ++ .inl (2, [.inl (a, a), .inl (b, b), x2, x3]) :: tl, 0, 0)) (q := _) rfl rfl ?_
    refine yreach.at (S' := (16, [(0, .inr (.inr (1, w.length))), (1, .inl (a, a)), (2, .inl (b, b)), (3, .inl (c, c)), (4, .inl (d, d))], [.inl (c, c), .inr (.inr (1, w.length))], w ++ .inl (2, [.inl (a, a), .inl (b, b), x2, x3]) :: tl, 0, 0)) (q := _) rfl rfl ?_
    refine yreach.at (S' := (19, [(0, .inr (.inr (1, w.length))), (1, .inl (a, a)), (2, .inl (b, b)), (3, .inl (c, c)), (4, .inl (d, d))], [], w ++ .inl (2, [.inl (a, a), .inl (b, b), .inl (c, c), x3]) :: tl, 0, 0)) (q := _) rfl (sy_putA (Nat.le_of_ble_eq_true rfl) rfl) ?_
    refine yreach.at (S' := (20, [(0, .inr (.inr (1, w.length))), (1, .inl (a, a)), (2, .inl (b, b)), (3, .inl (c, c)), (4, .inl (d, d))], [.inr (.inr (1, w.length))], w ++ .inl (2, [.inl (a, a), .inl (b, b), .inl (c, c), x3]) :: tl, 0, 0)) (q := _) rfl rfl ?_
    refine yreach.at (S' := (22, [(0, .inr (.inr (1, w.length))), (1, .inl (a, a)), (2, .inl (b, b)), (3, .inl (c, c)), (4, .inl (d, d))], [.inl (d, d), .inr (.inr (1, w.length))], w ++ .inl (2, [.inl (a, a), .inl (b, b), .inl (c, c), x3]) :: tl, 0, 0)) (q := _) rfl rfl ?_
    refine yreach.at (S' := (25, [(0, .inr (.inr (1, w.length))), (1, .inl (a, a)), (2, .inl (b, b)), (3, .inl (c, c)), (4, .inl (d, d))], [], w ++ .inl (2, [.inl (a, a), .inl (b, b), .inl (c, c), .inl (d, d)]) :: tl, 0, 0)) (q := _) rfl (sy_putA (Nat.le_of_ble_eq_true rfl) rfl) ?_
    exact yreach.ret (q := (none, w ++ .inl (2, [.inl (a, a), .inl (b, b), .inl (c, c), .inl (d, d)]) :: tl, 0, 0)) ((xstep_at rfl).trans rfl) rfl)
  cases m2
  exact m1
/-- several cells at once -/
theorem yheap_news {KD : Nat → Option YK} {ks : List Nat} {w : XW} (h : yheap KD ks w) {tl : List Nat} {cs : XW} (hcl : cs.length = tl.length) (hc : ∀ (d k : Nat), tl[d]? = some k → yfresh k = true ∧ ∃ dd c, KD k = some dd ∧ cs[d]? = some c ∧ ycell (ks ++ tl) dd c ∧ (k = 17 → ∀ (n : Nat) (fs : List XV) (z : Int), c = .inl (n, fs) → fs[0]? = some (.inl (3, 3)) → fs[3]? = some (.inl (z, z)) → 0 ≤ z ∧ z ≤ 4)) : yheap KD (ks ++ tl) (w ++ cs) := by
  obtain ⟨⟨hl, hh⟩, s1, s2, s3, s4, s5, s6, s7, s8⟩ := h
  -- an index of another kind lies in front
  have fr : ∀ (i k' : Nat), (ks ++ tl)[i]? = some k' → yfresh k' = false → ks[i]? = some k' ∧ (w ++ cs)[i]? = w[i]? := fun i k' hi hne => by
    by_cases hlt : i < ks.length
    · rw [List.getElem?_append_left hlt] at hi
      exact ⟨hi, List.getElem?_append_left (by omega)⟩
    · rw [List.getElem?_append_right (by omega)] at hi
      rw [(hc _ k' hi).1] at hne
      cases hne
  have fk : ∀ k : Nat, (k = 1 ∨ k = 32 ∨ k = 42) → yfresh k = false := fun k hk => by
    rcases hk with rfl | rfl | rfl <;> rfl
  refine ⟨⟨by rw [List.length_append, List.length_append, hl, hcl], fun i k' hi => ?_⟩, fun k' hk' p p' h1 h2 => ?_, fun p p' h1 h2 => ?_, fun p p' h1 h2 => ?_, fun p p' h1 h2 => ?_, fun i p c' fs n t es j h1 h2 h3 h4 h5 h6 => ?_, fun i p c' fs n t es j h1 h2 h3 h4 h5 h6 => ?_, fun i c' fs z h1 h2 h3 h4 => ?_, fun i p q c' fs n t a u b j z h1 h2 h3 h4 h5 h6 h7 h8 h9 h10 => ?_⟩
  · by_cases hlt : i < ks.length
    · rw [List.getElem?_append_left hlt] at hi
      obtain ⟨d', c', a1, a2, a3⟩ := hh i k' hi
      exact ⟨d', c', a1, by rw [List.getElem?_append_left (by omega)]; exact a2, ycell_app a3⟩
    · rw [List.getElem?_append_right (by omega)] at hi
      obtain ⟨_, dd, c, a1, a2, a3, _⟩ := hc _ k' hi
      exact ⟨dd, c, a1, by rw [List.getElem?_append_right (by omega), hl]; exact a2, a3⟩
  · exact s1 k' hk' p p' (fr p k' h1 (fk k' hk')).1 (fr p' k' h2 (fk k' hk')).1
  · exact s2 p p' (fr p 58 h1 rfl).1 (fr p' 58 h2 rfl).1
  · exact s3 p p' (fr p 61 h1 rfl).1 (fr p' 61 h2 rfl).1
  · exact s4 p p' (fr p 30 h1 rfl).1 (fr p' 30 h2 rfl).1
  · obtain ⟨a1, a2⟩ := fr i 0 h1 rfl
    obtain ⟨b1, b2⟩ := fr p 16 h2 rfl
    exact s5 i p c' fs n t es j a1 b1 (a2.symm.trans h3) h4 (b2.symm.trans h5) h6
  · obtain ⟨a1, a2⟩ := fr i 0 h1 rfl
    obtain ⟨b1, b2⟩ := fr p 20 h2 rfl
    exact s6 i p c' fs n t es j a1 b1 (a2.symm.trans h3) h4 (b2.symm.trans h5) h6
  · by_cases hlt : i < ks.length
    · rw [List.getElem?_append_left hlt] at h1
      rw [List.getElem?_append_left (by omega)] at h2
      exact s7 i c' fs z h1 h2 h3 h4
    · rw [List.getElem?_append_right (by omega)] at h1
      rw [List.getElem?_append_right (by omega), hl] at h2
      obtain ⟨_, dd, c, _, a2, _, a4⟩ := hc _ 17 h1
      rw [a2] at h2
      exact a4 rfl c' fs z (Option.some.inj h2) h3 h4
  · obtain ⟨a1, a2⟩ := fr i 30 h1 rfl
    obtain ⟨b1, b2⟩ := fr p 58 h2 rfl
    obtain ⟨d1, d2⟩ := fr q 61 h3 rfl
    exact s8 i p q c' fs n t a u b j z a1 b1 d1 (a2.symm.trans h4) h5 (b2.symm.trans h6) (d2.symm.trans h7) h8 h9 h10
