/-! ===== values, what is known, kinds of cells ===== -/
/-- a value: an int as a linear form; a long as a linear form; (0, s) a symbol's (a reference), (2, _) null, (3, j) the row outside number j -/
abbrev YV : Type := YL ⊕ (YL ⊕ (Nat × Nat))
abbrev YR : Type := Nat → XV
def yi (r : YR) (s : Nat) : Int := match r s with
  | .inl q => q.1
  | .inr (.inl (some z)) => z
  | _ => 0
def ylng (z : Int) : Prop := -9223372036854775808 ≤ z ∧ z ≤ 9223372036854775807
def yvin (r : YR) : YV → XV → Prop
  | .inl x, v => v = .inl (yev (yi r) x, yev (yi r) x) ∧ -2147483648 ≤ yev (yi r) x ∧ yev (yi r) x ≤ 2147483647
  | .inr (.inl x), v => v = .inr (.inl (some (yev (yi r) x))) ∧ ylng (yev (yi r) x)
  | .inr (.inr (0, s)), v => v = r s ∧ ∃ q, v = .inr (.inr q)
  | .inr (.inr (2, _)), v => v = .inr (.inr (0, 0))
  | .inr (.inr (_, j)), v => v = .inr (.inr (2, j))
def ycat : YV → Nat
  | .inl _ => 1
  | .inr (.inl _) => 2
  | _ => 1
/-- kinds: of an object its class and what each field may be (one of several), of an array its type, its length and what a place may be -/
abbrev YK : Type := (Nat × List (List YE)) ⊕ (Nat × Nat × List YE)
def yein (ks : List Nat) (e : YE) (v : XV) : Prop := match e with
  | (0, lo, hi) => ∃ z, v = .inl (z, z) ∧ lo ≤ z ∧ z ≤ hi ∧ -2147483648 ≤ z ∧ z ≤ 2147483647
  | (1, k, n) => (n = 1 ∧ v = .inr (.inr (0, 0))) ∨ ∃ i, v = .inr (.inr (1, i)) ∧ ks[i]? = some k.toNat
  | (2, n, _) => ∃ z, v = .inr (.inl (some z)) ∧ ylng z ∧ (n = 1 → z ≠ 0)
  | _ => v = .inr (.inr (0, 0))
def yany (ks : List Nat) (es : List YE) (v : XV) : Prop := ∃ e, e ∈ es ∧ yein ks e v
def ycell (ks : List Nat) : YK → XC → Prop
  | .inl d, .inl c => c.1 = d.1 ∧ c.2.length = d.2.length ∧ ∀ (f : Nat) (es : List YE) (v : XV), d.2[f]? = some es → c.2[f]? = some v → yany ks es v
  | .inr d, .inr c => c.1 = d.1 ∧ c.2.length = d.2.1 ∧ ∀ (i : Nat) (v : XV), c.2[i]? = some v → yany ks d.2.2 v
  | _, _ => False
def yheap (KD : Nat → Option YK) (ks : List Nat) (w : XW) : Prop := w.length = ks.length ∧ ∀ (i k : Nat), ks[i]? = some k → ∃ d c, KD k = some d ∧ w[i]? = some c ∧ ycell ks d c
/-- the same, and the world is just that one, where one is given -/
def yhp (KD : Nat → Option YK) (ks : List Nat) (o : Option XW) (w : XW) : Prop := yheap KD ks w ∧ ∀ w1, o = some w1 → w = w1
-- a field, a place
theorem yheap_f {KD : Nat → Option YK} {ks : List Nat} {w : XW} (h : yheap KD ks w) {i k : Nat} (hk : ks[i]? = some k) {cl : Nat} {fa : List (List YE)} (hd : KD k = some (.inl (cl, fa))) : ∃ fs, w[i]? = some (.inl (cl, fs)) ∧ fs.length = fa.length ∧ ∀ (f : Nat) (es : List YE) (v : XV), fa[f]? = some es → fs[f]? = some v → yany ks es v := by
  obtain ⟨d, c, h1, h2, h3⟩ := h.2 i k hk
  rw [hd] at h1
  cases h1
  match c, h2, h3 with
  | .inl (c', fs), h2, h3 =>
    obtain ⟨a1, a2, a3⟩ := h3
    dsimp only at a1 a2 a3
    subst a1
    exact ⟨fs, h2, a2, a3⟩
theorem yheap_a {KD : Nat → Option YK} {ks : List Nat} {w : XW} (h : yheap KD ks w) {i k : Nat} (hk : ks[i]? = some k) {t n : Nat} {ea : List YE} (hd : KD k = some (.inr (t, n, ea))) : ∃ es, w[i]? = some (.inr (t, es)) ∧ es.length = n ∧ ∀ (j : Nat) (v : XV), es[j]? = some v → yany ks ea v := by
  obtain ⟨d, c, h1, h2, h3⟩ := h.2 i k hk
  rw [hd] at h1
  cases h1
  match c, h2, h3 with
  | .inr (t', es), h2, h3 =>
    obtain ⟨a1, a2, a3⟩ := h3
    dsimp only at a1 a2 a3
    subst a1
    exact ⟨es, h2, a2, a3⟩
theorem yheap_setf {KD : Nat → Option YK} {ks : List Nat} {w : XW} (h : yheap KD ks w) {i k : Nat} (hk : ks[i]? = some k) {cl : Nat} {fa : List (List YE)} (hd : KD k = some (.inl (cl, fa))) {fs : List XV} (hw : w[i]? = some (.inl (cl, fs))) {f : Nat} {es : List YE} {v : XV} (hf : fa[f]? = some es) (hv : yany ks es v) : yheap KD ks (w.set i (.inl (cl, fs.set f v))) := by
  have hi : i < w.length := (List.getElem?_eq_some_iff.mp hw).1
  obtain ⟨fs', e1, e2, e3⟩ := yheap_f h hk hd
  rw [hw] at e1
  cases e1
  refine ⟨by rw [List.length_set]; exact h.1, fun j k' hk' => ?_⟩
  by_cases hj : i = j
  · subst hj
    rw [hk] at hk'
    cases hk'
    refine ⟨_, _, hd, List.getElem?_set_self hi, rfl, by rw [List.length_set]; exact e2, fun g eg u hg hu => ?_⟩
    dsimp only at hu hg
    by_cases hgf : f = g
    · subst hgf
      rw [hf] at hg
      cases hg
      have hl : f < fs.length := by
        rw [e2]
        exact (List.getElem?_eq_some_iff.mp hf).1
      rw [List.getElem?_set_self hl] at hu
      cases hu
      exact hv
    · rw [List.getElem?_set_ne hgf] at hu
      exact e3 g eg u hg hu
  · obtain ⟨d, c, h1, h2, h3⟩ := h.2 j k' hk'
    exact ⟨d, c, h1, by rw [List.getElem?_set_ne hj]; exact h2, h3⟩
theorem yheap_seta {KD : Nat → Option YK} {ks : List Nat} {w : XW} (h : yheap KD ks w) {i k : Nat} (hk : ks[i]? = some k) {t n : Nat} {ea : List YE} (hd : KD k = some (.inr (t, n, ea))) {es : List XV} (hw : w[i]? = some (.inr (t, es))) {j : Nat} {v : XV} (hv : yany ks ea v) : yheap KD ks (w.set i (.inr (t, es.set j v))) := by
  have hi : i < w.length := (List.getElem?_eq_some_iff.mp hw).1
  obtain ⟨es', e1, e2, e3⟩ := yheap_a h hk hd
  rw [hw] at e1
  cases e1
  refine ⟨by rw [List.length_set]; exact h.1, fun j' k' hk' => ?_⟩
  by_cases hj : i = j'
  · subst hj
    rw [hk] at hk'
    cases hk'
    refine ⟨_, _, hd, List.getElem?_set_self hi, rfl, by rw [List.length_set]; exact e2, fun g u hu => ?_⟩
    dsimp only at hu
    by_cases hgj : j = g
    · subst hgj
      by_cases hl : j < es.length
      · rw [List.getElem?_set_self hl] at hu
        cases hu
        exact hv
      · rw [List.getElem?_eq_none (by rw [List.length_set]; omega)] at hu
        cases hu
    · rw [List.getElem?_set_ne hgj] at hu
      exact e3 g u hu
  · obtain ⟨d, c, h1, h2, h3⟩ := h.2 j' k' hk'
    exact ⟨d, c, h1, by rw [List.getElem?_set_ne hj]; exact h2, h3⟩
/-! ===== knowledge ===== -/
/-- symbols, facts (each 0 or more), fields that were read, places that were read, longs that were compared -/
abbrev YF : Type := List YE × List YL × List ((Nat × Nat) × YV) × List ((Nat × YL) × YV) × List (Nat × (YL × YL))
abbrev yf_e (K : YF) : List YE := K.1
abbrev yf_f (K : YF) : List YL := K.2.1
abbrev yf_m (K : YF) : List ((Nat × Nat) × YV) := K.2.2.1
abbrev yf_a (K : YF) : List ((Nat × YL) × YV) := K.2.2.2.1
abbrev yf_l (K : YF) : List (Nat × (YL × YL)) := K.2.2.2.2
/-- the sign of a comparison -/
def ysgn (a b : Int) : Int := if a < b then -1 else if a = b then 0 else 1
def yknow (ks : List Nat) (w : XW) (r : YR) (K : YF) : Prop :=
  (∀ (s : Nat) (e : YE), (yf_e K)[s]? = some e → yein ks e (r s)) ∧
  (∀ f ∈ yf_f K, 0 ≤ yev (yi r) f) ∧
  (∀ q ∈ yf_m K, ∃ i c fs x, r q.1.1 = .inr (.inr (1, i)) ∧ w[i]? = some (.inl (c, fs)) ∧ fs[q.1.2]? = some x ∧ yvin r q.2 x) ∧
  (∀ q ∈ yf_a K, ∃ i t es x, r q.1.1 = .inr (.inr (1, i)) ∧ w[i]? = some (.inr (t, es)) ∧ 0 ≤ yev (yi r) q.1.2 ∧ es[(yev (yi r) q.1.2).toNat]? = some x ∧ yvin r q.2 x) ∧
  (∀ q ∈ yf_l K, yi r q.1 = ysgn (yev (yi r) q.2.1) (yev (yi r) q.2.2))
theorem yknow.ok {ks : List Nat} {w : XW} {r : YR} {K : YF} (h : yknow ks w r K) : yok (yf_e K) (yi r) := fun s lo hi hs => by
  obtain ⟨z, e1, e2, e3, _⟩ := h.1 s (0, lo, hi) hs
  unfold yi
  rw [e1]
  exact ⟨e2, e3⟩
/-- 0 ≤ x by what is known -/
def yprv (K : YF) (x : YL) : Bool := ypr (yf_e K) (yf_f K) 2 x
theorem yprv_ok {ks : List Nat} {w : XW} {r : YR} {K : YF} (h : yknow ks w r K) {x : YL} (hp : yprv K x = true) : 0 ≤ yev (yi r) x := ypr_ok h.ok h.2.1 hp
-- valuations that differ behind the known symbols alone
def yext (n : Nat) (r r' : YR) : Prop := ∀ s, s < n → r' s = r s
def ylin (n : Nat) (x : YL) : Bool := x.2.all (fun q => decide (q.1 < n))
def yvok (n : Nat) : YV → Bool
  | .inl x => ylin n x
  | .inr (.inl x) => ylin n x
  | .inr (.inr (0, s)) => decide (s < n)
  | _ => true
theorem ysum_ext {n : Nat} {r r' : YR} (h : yext n r r') : ∀ {l : List (Nat × Int)}, l.all (fun q => decide (q.1 < n)) = true → ysum (yi r') l = ysum (yi r) l
  | [], _ => rfl
  | q :: l, hl => by
    rw [List.all_cons, Bool.and_eq_true] at hl
    show q.2 * yi r' q.1 + ysum (yi r') l = q.2 * yi r q.1 + ysum (yi r) l
    have h1 : yi r' q.1 = yi r q.1 := by
      unfold yi
      rw [h q.1 (of_decide_eq_true hl.1)]
    rw [h1, ysum_ext h hl.2]
theorem yev_ext {n : Nat} {r r' : YR} (h : yext n r r') {x : YL} (hx : ylin n x = true) : yev (yi r') x = yev (yi r) x := by
  show x.1 + ysum (yi r') x.2 = x.1 + ysum (yi r) x.2
  rw [ysum_ext h hx]
theorem yvin_ext {n : Nat} {r r' : YR} (h : yext n r r') : ∀ {v : YV} {x : XV}, yvok n v = true → yvin r v x → yvin r' v x
  | .inl x, u, hx, hv => by
    have hv : u = .inl (yev (yi r) x, yev (yi r) x) ∧ -2147483648 ≤ yev (yi r) x ∧ yev (yi r) x ≤ 2147483647 := hv
    show u = .inl (yev (yi r') x, yev (yi r') x) ∧ -2147483648 ≤ yev (yi r') x ∧ yev (yi r') x ≤ 2147483647
    rw [yev_ext h hx]
    exact hv
  | .inr (.inl x), u, hx, hv => by
    have hv : u = .inr (.inl (some (yev (yi r) x))) ∧ ylng (yev (yi r) x) := hv
    show u = .inr (.inl (some (yev (yi r') x))) ∧ ylng (yev (yi r') x)
    rw [yev_ext h hx]
    exact hv
  | .inr (.inr (0, s)), u, hx, hv => by
    have hv : u = r s ∧ ∃ q, u = .inr (.inr q) := hv
    show u = r' s ∧ ∃ q, u = .inr (.inr q)
    rw [h s (of_decide_eq_true hx)]
    exact hv
  | .inr (.inr (1, _)), _, _, hv => hv
  | .inr (.inr (2, _)), _, _, hv => hv
  | .inr (.inr (_ + 3, _)), _, _, hv => hv
