/-! ===== values, what is known, kinds of cells ===== -/
/-- a value: an int as a linear form; a long as a linear form; (0, s) a symbol's (a reference), (2, _) null, (3, j) the row outside number j -/
abbrev YV : Type := YL ⊕ (YL ⊕ (Nat × Nat))
abbrev YR : Type := Nat → XV
def yi (r : YR) (s : Nat) : Int := match r s with
  | .inl q => q.1
  | .inr (.inl (some z)) => z
  | _ => 0
def ylng (z : Int) : Prop := -9223372036854775808 ≤ z ∧ z ≤ 9223372036854775807
def yvin (r : YR) : YV → XV → Prop
  | .inl x, v => v = .inl (yev (yi r) x, yev (yi r) x) ∧ -2147483648 ≤ yev (yi r) x ∧ yev (yi r) x ≤ 2147483647
  | .inr (.inl x), v => v = .inr (.inl (some (yev (yi r) x))) ∧ ylng (yev (yi r) x)
  | .inr (.inr (0, s)), v => v = r s ∧ ∃ q, v = .inr (.inr q)
  | .inr (.inr (2, _)), v => v = .inr (.inr (0, 0))
  | .inr (.inr (_, j)), v => v = .inr (.inr (2, j))
def ycat : YV → Nat
  | .inl _ => 1
  | .inr (.inl _) => 2
  | _ => 1
/-- kinds: of an object its class and what each field may be (one of several), of an array its type, its length and what a place may be -/
abbrev YK : Type := (Nat × List (List YE)) ⊕ (Nat × Nat × List YE)
def yein (ks : List Nat) (e : YE) (v : XV) : Prop := match e with
  | (0, lo, hi) => ∃ z, v = .inl (z, z) ∧ lo ≤ z ∧ z ≤ hi ∧ -2147483648 ≤ z ∧ z ≤ 2147483647
  | (1, k, n) => (n = 1 ∧ v = .inr (.inr (0, 0))) ∨ ∃ i, v = .inr (.inr (1, i)) ∧ ks[i]? = some k.toNat
  | (2, n, m) => ∃ z, v = .inr (.inl (some z)) ∧ ylng z ∧ (n = 1 → z ≠ 0) ∧ (n = 2 → z = m)
  | _ => v = .inr (.inr (0, 0))
def yany (ks : List Nat) (es : List YE) (v : XV) : Prop := ∃ e, e ∈ es ∧ yein ks e v
def ycell (ks : List Nat) : YK → XC → Prop
  | .inl d, .inl c => c.1 = d.1 ∧ c.2.length = d.2.length ∧ ∀ (f : Nat) (es : List YE) (v : XV), d.2[f]? = some es → c.2[f]? = some v → yany ks es v
  | .inr d, .inr c => c.1 = d.1 ∧ c.2.length = d.2.1 ∧ ∀ (i : Nat) (v : XV), c.2[i]? = some v → yany ks d.2.2 v
  | _, _ => False
def yheap0 (KD : Nat → Option YK) (ks : List Nat) (w : XW) : Prop := w.length = ks.length ∧ ∀ (i k : Nat), ks[i]? = some k → ∃ d c, KD k = some d ∧ w[i]? = some c ∧ ycell ks d c
/-- what this program keeps besides: one row of rows; words and looks below their counts are there; a wish's number is a way; a look that a word tells of is one -/
def ysp (ks : List Nat) (w : XW) : Prop :=
  (∀ k : Nat, (k = 1 ∨ k = 32 ∨ k = 42) → ∀ p p' : Nat, ks[p]? = some k → ks[p']? = some k → p = p') ∧
  (∀ p p' : Nat, ks[p]? = some 58 → ks[p']? = some 58 → p = p') ∧
  (∀ p p' : Nat, ks[p]? = some 61 → ks[p']? = some 61 → p = p') ∧
  (∀ p p' : Nat, ks[p]? = some 30 → ks[p']? = some 30 → p = p') ∧
  (∀ (i p c : Nat) (fs : List XV) (n : Int) (t : Nat) (es : List XV) (j : Nat), ks[i]? = some 0 → ks[p]? = some 16 → w[i]? = some (.inl (c, fs)) → fs[10]? = some (.inl (n, n)) → w[p]? = some (.inr (t, es)) → (j : Int) < n → es[j]? ≠ some (.inr (.inr (0, 0)))) ∧
  (∀ (i p c : Nat) (fs : List XV) (n : Int) (t : Nat) (es : List XV) (j : Nat), ks[i]? = some 0 → ks[p]? = some 20 → w[i]? = some (.inl (c, fs)) → fs[11]? = some (.inl (n, n)) → w[p]? = some (.inr (t, es)) → (j : Int) < n → es[j]? ≠ some (.inr (.inr (0, 0)))) ∧
  (∀ (i c : Nat) (fs : List XV) (z : Int), ks[i]? = some 17 → w[i]? = some (.inl (c, fs)) → fs[0]? = some (.inl (3, 3)) → fs[3]? = some (.inl (z, z)) → 0 ≤ z ∧ z ≤ 4) ∧
  (∀ (i p q c : Nat) (fs : List XV) (n : Int) (t : Nat) (a : List XV) (u : Nat) (b : List XV) (j : Nat) (z : Int), ks[i]? = some 30 → ks[p]? = some 58 → ks[q]? = some 61 → w[i]? = some (.inl (c, fs)) → fs[36]? = some (.inl (n, n)) → w[p]? = some (.inr (t, a)) → w[q]? = some (.inr (u, b)) → (j : Int) < n → a[j]? = some (.inl (2, 2)) → b[j]? = some (.inl (z, z)) → z ≤ 39)
def yheap (KD : Nat → Option YK) (ks : List Nat) (w : XW) : Prop := yheap0 KD ks w ∧ ysp ks w
/-- the same, and the world is as another condition says -/
def yhp (KD : Nat → Option YK) (ks : List Nat) (o : XW → Prop) (w : XW) : Prop := yheap KD ks w ∧ o w
/-- the rows are as they were -/
def yrows (ks : List Nat) (w w' : XW) : Prop := ∀ (i k : Nat), ks[i]? = some k → (k = 1 ∨ k = 2 ∨ k = 3 ∨ k = 4 ∨ k = 32 ∨ k = 33 ∨ k = 35 ∨ k = 36) → w'[i]? = w[i]?
/-- all but the row of times is as it was -/
def yfix (ks : List Nat) (w w' : XW) : Prop := ∀ (i k : Nat), ks[i]? = some k → k ≠ 42 → w'[i]? = w[i]?
/-- the boats' object itself is as it was -/
def yibs (ks : List Nat) (w w' : XW) : Prop := ∀ (i k : Nat), ks[i]? = some k → (k = 0 ∨ k = 1 ∨ k = 2 ∨ k = 3 ∨ k = 4 ∨ k = 32 ∨ k = 33 ∨ k = 35 ∨ k = 36) → w'[i]? = w[i]?
/-- what a walk may do to the world: 0 all, 1 nothing, 2 nothing to the rows, 3 nothing but to the times, 4 nothing to the rows and the boats' object -/
def ymd (pu : Nat) (ks : List Nat) (ow : XW → Prop) : Prop := (pu = 0 → ∀ w, ow w) ∧ (pu = 2 → ∀ w w', yrows ks w w' → ow w → ow w') ∧ (pu = 3 → ∀ w w', yfix ks w w' → ow w → ow w') ∧ (pu = 4 → ∀ w w', yibs ks w w' → ow w → ow w')
def ypm (pu k : Nat) : Bool := ((pu == 0 || (pu == 4 && !(k == 0 || (k == 1 || (k == 2 || (k == 3 || (k == 4 || (k == 32 || (k == 33 || (k == 35 || (k == 36))))))))))) || (pu == 3 && k == 42)) || (pu == 2 && !(k == 1 || (k == 2 || (k == 3 || (k == 4 || (k == 32 || (k == 33 || (k == 35 || (k == 36)))))))))
theorem ymd_set {pu : Nat} {ks : List Nat} {ow : XW → Prop} (h : ymd pu ks ow) {k i : Nat} (hp : ypm pu k = true) (hk : ks[i]? = some k) {w : XW} {c : XC} (hw : ow w) : ow (w.set i c) := by
  unfold ypm at hp
  rw [Bool.or_eq_true, Bool.or_eq_true, Bool.or_eq_true] at hp
  rcases hp with ((hp | hp) | hp) | hp
  · exact h.1 (by simpa using hp) _
  · rw [Bool.and_eq_true] at hp
    refine h.2.2.2 (by simpa using hp.1) w _ (fun j k' hj hk' => ?_) hw
    have hne : i ≠ j := fun e => by
      subst e
      rw [hk] at hj
      cases hj
      have h2 := hp.2
      simp at h2
      omega
    rw [List.getElem?_set_ne hne]
  · rw [Bool.and_eq_true] at hp
    have hk42 : k = 42 := by simpa using hp.2
    refine h.2.2.1 (by simpa using hp.1) w _ (fun j k' hj hk' => ?_) hw
    have hne : i ≠ j := fun e => by
      subst e
      rw [hk, hk42] at hj
      exact hk' (Option.some.inj hj).symm
    rw [List.getElem?_set_ne hne]
  · rw [Bool.and_eq_true] at hp
    refine h.2.1 (by simpa using hp.1) w _ (fun j k' hj hk' => ?_) hw
    have hne : i ≠ j := fun e => by
      subst e
      rw [hk] at hj
      cases hj
      have h2 := hp.2
      simp at h2
      omega
    rw [List.getElem?_set_ne hne]
-- a field, a place
theorem yheap_f {KD : Nat → Option YK} {ks : List Nat} {w : XW} (h : yheap KD ks w) {i k : Nat} (hk : ks[i]? = some k) {cl : Nat} {fa : List (List YE)} (hd : KD k = some (.inl (cl, fa))) : ∃ fs, w[i]? = some (.inl (cl, fs)) ∧ fs.length = fa.length ∧ ∀ (f : Nat) (es : List YE) (v : XV), fa[f]? = some es → fs[f]? = some v → yany ks es v := by
  obtain ⟨d, c, h1, h2, h3⟩ := h.1.2 i k hk
  rw [hd] at h1
  cases h1
  match c, h2, h3 with
  | .inl (c', fs), h2, h3 =>
    obtain ⟨a1, a2, a3⟩ := h3
    dsimp only at a1 a2 a3
    subst a1
    exact ⟨fs, h2, a2, a3⟩
theorem yheap_a {KD : Nat → Option YK} {ks : List Nat} {w : XW} (h : yheap KD ks w) {i k : Nat} (hk : ks[i]? = some k) {t n : Nat} {ea : List YE} (hd : KD k = some (.inr (t, n, ea))) : ∃ es, w[i]? = some (.inr (t, es)) ∧ es.length = n ∧ ∀ (j : Nat) (v : XV), es[j]? = some v → yany ks ea v := by
  obtain ⟨d, c, h1, h2, h3⟩ := h.1.2 i k hk
  rw [hd] at h1
  cases h1
  match c, h2, h3 with
  | .inr (t', es), h2, h3 =>
    obtain ⟨a1, a2, a3⟩ := h3
    dsimp only at a1 a2 a3
    subst a1
    exact ⟨es, h2, a2, a3⟩
theorem yheap0_setf {KD : Nat → Option YK} {ks : List Nat} {w : XW} (h : yheap KD ks w) {i k : Nat} (hk : ks[i]? = some k) {cl : Nat} {fa : List (List YE)} (hd : KD k = some (.inl (cl, fa))) {fs : List XV} (hw : w[i]? = some (.inl (cl, fs))) {f : Nat} {es : List YE} {v : XV} (hf : fa[f]? = some es) (hv : yany ks es v) : yheap0 KD ks (w.set i (.inl (cl, fs.set f v))) := by
  have hi : i < w.length := (List.getElem?_eq_some_iff.mp hw).1
  obtain ⟨fs', e1, e2, e3⟩ := yheap_f h hk hd
  rw [hw] at e1
  cases e1
  refine ⟨by rw [List.length_set]; exact h.1.1, fun j k' hk' => ?_⟩
  by_cases hj : i = j
  · subst hj
    rw [hk] at hk'
    cases hk'
    refine ⟨_, _, hd, List.getElem?_set_self hi, rfl, by rw [List.length_set]; exact e2, fun g eg u hg hu => ?_⟩
    dsimp only at hu hg
    by_cases hgf : f = g
    · subst hgf
      rw [hf] at hg
      cases hg
      have hl : f < fs.length := by
        rw [e2]
        exact (List.getElem?_eq_some_iff.mp hf).1
      rw [List.getElem?_set_self hl] at hu
      cases hu
      exact hv
    · rw [List.getElem?_set_ne hgf] at hu
      exact e3 g eg u hg hu
  · obtain ⟨d, c, h1, h2, h3⟩ := h.1.2 j k' hk'
    exact ⟨d, c, h1, by rw [List.getElem?_set_ne hj]; exact h2, h3⟩
theorem yheap0_seta {KD : Nat → Option YK} {ks : List Nat} {w : XW} (h : yheap KD ks w) {i k : Nat} (hk : ks[i]? = some k) {t n : Nat} {ea : List YE} (hd : KD k = some (.inr (t, n, ea))) {es : List XV} (hw : w[i]? = some (.inr (t, es))) {j : Nat} {v : XV} (hv : yany ks ea v) : yheap0 KD ks (w.set i (.inr (t, es.set j v))) := by
  have hi : i < w.length := (List.getElem?_eq_some_iff.mp hw).1
  obtain ⟨es', e1, e2, e3⟩ := yheap_a h hk hd
  rw [hw] at e1
  cases e1
  refine ⟨by rw [List.length_set]; exact h.1.1, fun j' k' hk' => ?_⟩
  by_cases hj : i = j'
  · subst hj
    rw [hk] at hk'
    cases hk'
    refine ⟨_, _, hd, List.getElem?_set_self hi, rfl, by rw [List.length_set]; exact e2, fun g u hu => ?_⟩
    dsimp only at hu
    by_cases hgj : j = g
    · subst hgj
      by_cases hl : j < es.length
      · rw [List.getElem?_set_self hl] at hu
        cases hu
        exact hv
      · rw [List.getElem?_eq_none (by rw [List.length_set]; omega)] at hu
        cases hu
    · rw [List.getElem?_set_ne hgj] at hu
      exact e3 g u hu
  · obtain ⟨d, c, h1, h2, h3⟩ := h.1.2 j' k' hk'
    exact ⟨d, c, h1, by rw [List.getElem?_set_ne hj]; exact h2, h3⟩
/-- a field of an object is changed: all the rest is as it was -/
theorem yset_f {w : XW} {i0 cl g : Nat} {fs0 : List XV} {x : XV} (hw : w[i0]? = some (.inl (cl, fs0))) : (∀ (i c : Nat) (fs : List XV), (w.set i0 (.inl (cl, fs0.set g x)))[i]? = some (.inl (c, fs)) → ∃ fs1, w[i]? = some (.inl (c, fs1)) ∧ ∀ f, (i = i0 → f ≠ g) → fs1[f]? = fs[f]?) ∧ ∀ (p : Nat) (a : Nat × List XV), (w.set i0 (.inl (cl, fs0.set g x)))[p]? = some (.inr a) → w[p]? = some (.inr a) := by
  have hi : i0 < w.length := (List.getElem?_eq_some_iff.mp hw).1
  refine ⟨fun i c fs h => ?_, fun p a h => ?_⟩
  · by_cases e : i0 = i
    · subst e
      rw [List.getElem?_set_self hi] at h
      cases h
      exact ⟨fs0, hw, fun f hf => (List.getElem?_set_ne (fun e => hf rfl e.symm)).symm⟩
    · rw [List.getElem?_set_ne e] at h
      exact ⟨fs, h, fun _ _ => rfl⟩
  · by_cases e : i0 = p
    · subst e
      rw [List.getElem?_set_self hi] at h
      cases h
    · rw [List.getElem?_set_ne e] at h
      exact h
/-- fields that are looked after -/
def ypf (k g : Nat) : Bool := !((k == 0 && (g == 10 || g == 11)) || ((k == 17 && (g == 0 || g == 3)) || (k == 30 && g == 36)))
theorem ypf_ne {k g k' g' : Nat} (h : ypf k g = true) (hp : ypf k' g' = false) (hk : k = k') : g' ≠ g := fun e => by
  subst hk
  subst e
  rw [h] at hp
  cases hp
theorem ysp_setf {ks : List Nat} {w : XW} (h : ysp ks w) {i0 k cl g : Nat} {fs0 : List XV} {x : XV} (hk : ks[i0]? = some k) (hw : w[i0]? = some (.inl (cl, fs0))) (hp : ypf k g = true) : ysp ks (w.set i0 (.inl (cl, fs0.set g x))) := by
  obtain ⟨s1, s2, s3, s4, s5, s6, s7, s8⟩ := h
  obtain ⟨a1, a2⟩ := yset_f (g := g) (x := x) hw
  have ne : ∀ (i k' g' : Nat), ks[i]? = some k' → ypf k' g' = false → i = i0 → g' ≠ g := fun i k' g' hi hf e => by
    subst e
    rw [hk] at hi
    cases hi
    exact ypf_ne hp hf rfl
  refine ⟨s1, s2, s3, s4, fun i p c fs n t es j h1 h2 h3 h4 h5 h6 => ?_, fun i p c fs n t es j h1 h2 h3 h4 h5 h6 => ?_, fun i c fs z h1 h2 h3 h4 => ?_, fun i p q c fs n t a u b j z h1 h2 h3 h4 h5 h6 h7 h8 h9 h10 => ?_⟩
  · obtain ⟨fs1, b1, b2⟩ := a1 i c fs h3
    exact s5 i p c fs1 n t es j h1 h2 b1 (by rw [b2 10 (ne i 0 10 h1 rfl)]; exact h4) (a2 p _ h5) h6
  · obtain ⟨fs1, b1, b2⟩ := a1 i c fs h3
    exact s6 i p c fs1 n t es j h1 h2 b1 (by rw [b2 11 (ne i 0 11 h1 rfl)]; exact h4) (a2 p _ h5) h6
  · obtain ⟨fs1, b1, b2⟩ := a1 i c fs h2
    exact s7 i c fs1 z h1 b1 (by rw [b2 0 (ne i 17 0 h1 rfl)]; exact h3) (by rw [b2 3 (ne i 17 3 h1 rfl)]; exact h4)
  · obtain ⟨fs1, b1, b2⟩ := a1 i c fs h4
    exact s8 i p q c fs1 n t a u b j z h1 h2 h3 b1 (by rw [b2 36 (ne i 30 36 h1 rfl)]; exact h5) (a2 p _ h6) (a2 q _ h7) h8 h9 h10
theorem yset_a {w : XW} {i0 t0 : Nat} {es0 es1 : List XV} (hw : w[i0]? = some (.inr (t0, es0))) : (∀ (i : Nat) (o : Nat × List XV), (w.set i0 (.inr (t0, es1)))[i]? = some (.inl o) → w[i]? = some (.inl o)) ∧ ∀ (p : Nat) (a : Nat × List XV), (w.set i0 (.inr (t0, es1)))[p]? = some (.inr a) → p ≠ i0 → w[p]? = some (.inr a) := by
  have hi : i0 < w.length := (List.getElem?_eq_some_iff.mp hw).1
  refine ⟨fun i o h => ?_, fun p a h hne => ?_⟩
  · by_cases e : i0 = i
    · subst e
      rw [List.getElem?_set_self hi] at h
      cases h
    · rw [List.getElem?_set_ne e] at h
      exact h
  · rw [List.getElem?_set_ne (fun e => hne e.symm)] at h
    exact h
/-- arrays that are looked after -/
def ypa (k : Nat) : Bool := !(k == 16 || (k == 20 || (k == 58 || k == 61)))
theorem ysp_seta {ks : List Nat} {w : XW} (h : ysp ks w) {i0 k t0 : Nat} {es0 es1 : List XV} (hk : ks[i0]? = some k) (hw : w[i0]? = some (.inr (t0, es0))) (hp : ypa k = true) : ysp ks (w.set i0 (.inr (t0, es1))) := by
  obtain ⟨s1, s2, s3, s4, s5, s6, s7, s8⟩ := h
  obtain ⟨a1, a2⟩ := yset_a (es1 := es1) hw
  have ne : ∀ (p k' : Nat), ks[p]? = some k' → ypa k' = false → p ≠ i0 := fun p k' hi hf e => by
    subst e
    rw [hk] at hi
    cases hi
    rw [hp] at hf
    cases hf
  refine ⟨s1, s2, s3, s4, fun i p c fs n t es j h1 h2 h3 h4 h5 h6 => ?_, fun i p c fs n t es j h1 h2 h3 h4 h5 h6 => ?_, fun i c fs z h1 h2 h3 h4 => ?_, fun i p q c fs n t a u b j z h1 h2 h3 h4 h5 h6 h7 h8 h9 h10 => ?_⟩
  · exact s5 i p c fs n t es j h1 h2 (a1 i _ h3) h4 (a2 p _ h5 (ne p 16 h2 rfl)) h6
  · exact s6 i p c fs n t es j h1 h2 (a1 i _ h3) h4 (a2 p _ h5 (ne p 20 h2 rfl)) h6
  · exact s7 i c fs z h1 (a1 i _ h2) h3 h4
  · exact s8 i p q c fs n t a u b j z h1 h2 h3 (a1 i _ h4) h5 (a2 p _ h6 (ne p 58 h2 rfl)) (a2 q _ h7 (ne q 61 h3 rfl)) h8 h9 h10
theorem yheap_setf {KD : Nat → Option YK} {ks : List Nat} {w : XW} (h : yheap KD ks w) {i k : Nat} (hk : ks[i]? = some k) {cl : Nat} {fa : List (List YE)} (hd : KD k = some (.inl (cl, fa))) {fs : List XV} (hw : w[i]? = some (.inl (cl, fs))) {f : Nat} {es : List YE} {v : XV} (hf : fa[f]? = some es) (hv : yany ks es v) (hp : ypf k f = true) : yheap KD ks (w.set i (.inl (cl, fs.set f v))) := ⟨yheap0_setf h hk hd hw hf hv, ysp_setf h.2 hk hw hp⟩
theorem yheap_seta {KD : Nat → Option YK} {ks : List Nat} {w : XW} (h : yheap KD ks w) {i k : Nat} (hk : ks[i]? = some k) {t n : Nat} {ea : List YE} (hd : KD k = some (.inr (t, n, ea))) {es : List XV} (hw : w[i]? = some (.inr (t, es))) {j : Nat} {v : XV} (hv : yany ks ea v) (hp : ypa k = true) : yheap KD ks (w.set i (.inr (t, es.set j v))) := ⟨yheap0_seta h hk hd hw hv, ysp_seta h.2 hk hw hp⟩
/-! ===== what may be known of a value besides: fields, bits, that a row's places are ways ===== -/
def ybit (z k : Int) : Int := z / (2 ^ k.toNat) % 2
def yways (ks : List Nat) (w : XW) (i : Nat) : Prop := ks[i]? = some 3 ∧ ∃ c fs p n t es, w[i]? = some (.inl (c, fs)) ∧ fs[0]? = some (.inr (.inr (1, p))) ∧ fs[1]? = some (.inl (n, n)) ∧ ks[p]? = some 4 ∧ w[p]? = some (.inr (t, es)) ∧ ∀ j : Nat, (j : Int) < n → ∃ z, es[j]? = some (.inl (z, z)) ∧ 0 ≤ z ∧ z ≤ 4
def yplan (ks : List Nat) (w : XW) (m : Int) : Prop := ∀ (p t : Nat) (es : List XV), ks[p]? = some 1 → w[p]? = some (.inr (t, es)) → ∀ r : Nat, r < 6 → ybit m (r : Int) = 1 → ∀ q, es[r]? = some (.inr (.inr (1, q))) → ks[q]? = some 3 → yways ks w q
/-- a row of the model has at most 8 places -/
def ysz (ks : List Nat) (w : XW) (m : Int) : Prop := ∀ (p t : Nat) (es : List XV) (z : Int), ks[p]? = some 32 → w[p]? = some (.inr (t, es)) → 0 ≤ m → es[m.toNat]? = some (.inl (z, z)) → z ≤ 8
/-- an int that is 1 where P holds, else 0 -/
def y01 (P : Prop) (x : XV) : Prop := ∃ z, x = .inl (z, z) ∧ 0 ≤ z ∧ z ≤ 1 ∧ (1 ≤ z ↔ P)
/-- the word that isn't counted yet: a look that it tells of is one -/
def ywd (ks : List Nat) (w : XW) (i : Nat) : Prop := ks[i]? = some 30 ∧ ∀ (c : Nat) (fs : List XV) (n : Int) (p q t : Nat) (a : List XV) (u : Nat) (b : List XV) (j : Nat) (z : Int), w[i]? = some (.inl (c, fs)) → fs[36]? = some (.inl (n, n)) → ks[p]? = some 58 → ks[q]? = some 61 → w[p]? = some (.inr (t, a)) → w[q]? = some (.inr (u, b)) → (j : Int) = n → a[j]? = some (.inl (2, 2)) → b[j]? = some (.inl (z, z)) → z ≤ 39
def y10 (P : Prop) (x : XV) : Prop := ∃ z, x = .inl (z, z) ∧ 0 ≤ z ∧ z ≤ 1 ∧ (1 ≤ z → P)
/-- the sum of a row of ints -/
def yn0 (x : XV) : Int := match x with
  | .inl q => q.1
  | _ => 0
def ysumv : List XV → Int
  | [] => 0
  | x :: l => yn0 x + ysumv l
theorem ysumv_set {v : XV} : ∀ {l : List XV} {z : Nat} {o : XV}, l[z]? = some o → ysumv (l.set z v) = ysumv l - yn0 o + yn0 v
  | [], _, _, h => by simp at h
  | x :: l, 0, o, h => by
    rw [List.getElem?_cons_zero] at h
    cases h
    show yn0 v + ysumv l = yn0 x + ysumv l - yn0 x + yn0 v
    omega
  | x :: l, z + 1, o, h => by
    rw [List.getElem?_cons_succ] at h
    show yn0 x + ysumv (l.set z v) = yn0 x + ysumv l - yn0 o + yn0 v
    rw [ysumv_set h]
    omega
theorem ysumv_bd : ∀ {l : List XV}, (∀ v ∈ l, 0 ≤ yn0 v ∧ yn0 v ≤ 100000) → 0 ≤ ysumv l ∧ ysumv l ≤ 100000 * (l.length : Int)
  | [], _ => by
    show (0 : Int) ≤ 0 ∧ (0 : Int) ≤ 100000 * 0
    omega
  | x :: l, h => by
    have h1 := h x List.mem_cons_self
    have h2 := ysumv_bd (l := l) (fun v hv => h v (List.mem_cons_of_mem _ hv))
    show 0 ≤ yn0 x + ysumv l ∧ yn0 x + ysumv l ≤ 100000 * ((l.length + 1 : Nat) : Int)
    omega
def ysm (ks : List Nat) (w : XW) (x : XV) : Prop := ∃ (p t : Nat) (es : List XV), ks[p]? = some 42 ∧ w[p]? = some (.inr (t, es)) ∧ x = .inl (ysumv es, ysumv es)
/-- x is the field g of b; 106: the sum of the times; 103: the word that isn't counted yet; 100: whether a row's places are ways; 102: whether those of every row of a set are -/
def ygf (ks : List Nat) (w : XW) (b : XV) (g : Nat) (x : XV) : Prop := match b with
  | .inr (.inr (1, i)) => (g < 100 ∧ ∃ c fs, w[i]? = some (.inl (c, fs)) ∧ fs[g]? = some x) ∨ (g = 100 ∧ y01 (yways ks w i) x) ∨ (g = 103 ∧ y10 (ywd ks w i) x) ∨ (g = 106 ∧ ysm ks w x)
  | .inl q => (g = 102 ∧ y01 (yplan ks w q.1) x) ∨ (g = 104 ∧ y01 (ysz ks w q.1) x)
  | _ => False
/-- x is place z of b; of a number: its bit -/
def yga (w : XW) (b : XV) (z : Int) (x : XV) : Prop := match b with
  | .inr (.inr (1, i)) => 0 ≤ z ∧ ∃ t es, w[i]? = some (.inr (t, es)) ∧ es[z.toNat]? = some x
  | .inl q => x = .inl (ybit q.1 z, ybit q.1 z)
  | .inr (.inl (some v)) => x = .inl (ybit v z, ybit v z)
  | _ => False
theorem yways_rows {ks : List Nat} {w w' : XW} (h : yrows ks w w') {i : Nat} (hi : yways ks w i) : yways ks w' i := by
  obtain ⟨h1, c, fs, p, n, t, es, a1, a2, a3, a4, a5, a6⟩ := hi
  exact ⟨h1, c, fs, p, n, t, es, (h i 3 h1 (by omega)).trans a1, a2, a3, a4, (h p 4 a4 (by omega)).trans a5, a6⟩
theorem yrows.symm {ks : List Nat} {w w' : XW} (h : yrows ks w w') : yrows ks w' w := fun i k hi hk => (h i k hi hk).symm
theorem yrows.trans {ks : List Nat} {w w' w'' : XW} (h : yrows ks w w') (h2 : yrows ks w' w'') : yrows ks w w'' := fun i k hi hk => (h2 i k hi hk).trans (h i k hi hk)
theorem yplan_rows {ks : List Nat} {w w' : XW} (h : yrows ks w w') {m : Int} (hm : yplan ks w m) : yplan ks w' m := fun p t es h1 h2 r h3 h4 q h5 h6 => yways_rows h (hm p t es h1 ((h p 1 h1 (by omega)).symm.trans h2) r h3 h4 q h5 h6)
theorem ysz_rows {ks : List Nat} {w w' : XW} (h : yrows ks w w') {m : Int} (hm : ysz ks w m) : ysz ks w' m := fun p t es z h1 h2 h3 h4 => hm p t es z h1 ((h p 32 h1 (by omega)).symm.trans h2) h3 h4
theorem y01_iff {P Q : Prop} (h : P ↔ Q) {x : XV} (hx : y01 P x) : y01 Q x := by
  obtain ⟨z, a1, a2, a3, a4⟩ := hx
  exact ⟨z, a1, a2, a3, a4.trans h⟩
theorem y01_ex (P : Prop) : ∃ x, y01 P x := by
  by_cases h : P
  · exact ⟨.inl (1, 1), 1, rfl, by decide, by decide, fun _ => h, fun _ => by decide⟩
  · exact ⟨.inl (0, 0), 0, rfl, by decide, by decide, fun h0 => absurd h0 (by decide), fun h0 => absurd h0 h⟩
/-- what stays known where the rows stay -/
theorem ygf_rows {ks : List Nat} {w w' : XW} (h : yrows ks w w') : ∀ {b : XV} {g : Nat} {x : XV}, (∀ i, b = .inr (.inr (1, i)) → ks[i]? = some 3) → (g ≠ 103 ∧ g ≠ 106) → ygf ks w b g x → ygf ks w' b g x
  | .inr (.inr (1, i)), g, x, hb, hg, hx => by
    have h3 := hb i rfl
    rcases hx with ⟨a1, c, fs, a2, a3⟩ | ⟨a1, a2⟩ | ⟨a1, a2⟩ | ⟨a1, a2⟩
    · exact Or.inl ⟨a1, c, fs, (h i 3 h3 (by omega)).trans a2, a3⟩
    · exact Or.inr (Or.inl ⟨a1, y01_iff ⟨yways_rows h, yways_rows h.symm⟩ a2⟩)
    · exact absurd a1 hg.1
    · exact absurd a1 hg.2
  | .inl q, g, x, _, _, hx => hx.imp (fun hx => ⟨hx.1, y01_iff ⟨yplan_rows h, yplan_rows h.symm⟩ hx.2⟩) (fun hx => ⟨hx.1, y01_iff ⟨ysz_rows h, ysz_rows h.symm⟩ hx.2⟩)
  | .inr (.inr (0, _)), _, _, _, _, hx => hx.elim
  | .inr (.inr (_ + 2, _)), _, _, _, _, hx => hx.elim
  | .inr (.inl _), _, _, _, _, hx => hx.elim
/-! ===== knowledge ===== -/
/-- symbols, facts (each 0 or more), fields that were read, places that were read, longs that were compared -/
abbrev YF : Type := List YE × List YL × List ((Nat × Nat) × YV) × List ((Nat × YL) × YV) × List (Nat × (YL × YL))
abbrev yf_e (K : YF) : List YE := K.1
abbrev yf_f (K : YF) : List YL := K.2.1
abbrev yf_m (K : YF) : List ((Nat × Nat) × YV) := K.2.2.1
abbrev yf_a (K : YF) : List ((Nat × YL) × YV) := K.2.2.2.1
abbrev yf_l (K : YF) : List (Nat × (YL × YL)) := K.2.2.2.2
/-- the sign of a comparison -/
def ysgn (a b : Int) : Int := if a < b then -1 else if a = b then 0 else 1
def yknow (ks : List Nat) (w : XW) (r : YR) (K : YF) : Prop :=
  (∀ (s : Nat) (e : YE), (yf_e K)[s]? = some e → yein ks e (r s)) ∧
  (∀ f ∈ yf_f K, 0 ≤ yev (yi r) f) ∧
  (∀ q ∈ yf_m K, ∃ x, ygf ks w (r q.1.1) q.1.2 x ∧ yvin r q.2 x) ∧
  (∀ q ∈ yf_a K, ∃ x, yga w (r q.1.1) (yev (yi r) q.1.2) x ∧ yvin r q.2 x) ∧
  (∀ q ∈ yf_l K, yi r q.1 = ysgn (yev (yi r) q.2.1) (yev (yi r) q.2.2))
theorem yknow.ok {ks : List Nat} {w : XW} {r : YR} {K : YF} (h : yknow ks w r K) : yok (yf_e K) (yi r) := fun s lo hi hs => by
  obtain ⟨z, e1, e2, e3, _⟩ := h.1 s (0, lo, hi) hs
  unfold yi
  rw [e1]
  exact ⟨e2, e3⟩
/-- 0 ≤ x by what is known -/
def yprv (K : YF) (x : YL) : Bool := ypr (yf_e K) (yf_f K) 2 x
theorem yprv_ok {ks : List Nat} {w : XW} {r : YR} {K : YF} (h : yknow ks w r K) {x : YL} (hp : yprv K x = true) : 0 ≤ yev (yi r) x := ypr_ok h.ok h.2.1 hp
-- valuations that differ behind the known symbols alone
def yext (n : Nat) (r r' : YR) : Prop := ∀ s, s < n → r' s = r s
def ylin (n : Nat) (x : YL) : Bool := x.2.all (fun q => decide (q.1 < n))
def yvok (n : Nat) : YV → Bool
  | .inl x => ylin n x
  | .inr (.inl x) => ylin n x
  | .inr (.inr (0, s)) => decide (s < n)
  | _ => true
theorem ysum_ext {n : Nat} {r r' : YR} (h : yext n r r') : ∀ {l : List (Nat × Int)}, l.all (fun q => decide (q.1 < n)) = true → ysum (yi r') l = ysum (yi r) l
  | [], _ => rfl
  | q :: l, hl => by
    rw [List.all_cons, Bool.and_eq_true] at hl
    show q.2 * yi r' q.1 + ysum (yi r') l = q.2 * yi r q.1 + ysum (yi r) l
    have h1 : yi r' q.1 = yi r q.1 := by
      unfold yi
      rw [h q.1 (of_decide_eq_true hl.1)]
    rw [h1, ysum_ext h hl.2]
theorem yev_ext {n : Nat} {r r' : YR} (h : yext n r r') {x : YL} (hx : ylin n x = true) : yev (yi r') x = yev (yi r) x := by
  show x.1 + ysum (yi r') x.2 = x.1 + ysum (yi r) x.2
  rw [ysum_ext h hx]
theorem yvin_ext {n : Nat} {r r' : YR} (h : yext n r r') : ∀ {v : YV} {x : XV}, yvok n v = true → yvin r v x → yvin r' v x
  | .inl x, u, hx, hv => by
    have hv : u = .inl (yev (yi r) x, yev (yi r) x) ∧ -2147483648 ≤ yev (yi r) x ∧ yev (yi r) x ≤ 2147483647 := hv
    show u = .inl (yev (yi r') x, yev (yi r') x) ∧ -2147483648 ≤ yev (yi r') x ∧ yev (yi r') x ≤ 2147483647
    rw [yev_ext h hx]
    exact hv
  | .inr (.inl x), u, hx, hv => by
    have hv : u = .inr (.inl (some (yev (yi r) x))) ∧ ylng (yev (yi r) x) := hv
    show u = .inr (.inl (some (yev (yi r') x))) ∧ ylng (yev (yi r') x)
    rw [yev_ext h hx]
    exact hv
  | .inr (.inr (0, s)), u, hx, hv => by
    have hv : u = r s ∧ ∃ q, u = .inr (.inr q) := hv
    show u = r' s ∧ ∃ q, u = .inr (.inr q)
    rw [h s (of_decide_eq_true hx)]
    exact hv
  | .inr (.inr (1, _)), _, _, hv => hv
  | .inr (.inr (2, _)), _, _, hv => hv
  | .inr (.inr (_ + 3, _)), _, _, hv => hv
