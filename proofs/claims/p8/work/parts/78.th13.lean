/-! ===== the world behind both constructors fits its kinds ===== -/
def yKS0 : List Nat := [0, 1, 2, 5, 6, 7, 8, 9, 10, 11, 12, 13, 16, 20, 22, 23, 24, 25, 26, 27, 28, 28, 28, 28, 29, 3, 4, 3, 4, 3, 4, 3, 4, 3, 4, 3, 4, 3, 4, 3, 4, 3, 4, 3, 4, 14, 15, 14, 15, 14, 15, 14, 15, 14, 15, 14, 15, 30, 31, 32, 33, 34, 35, 36, 37, 38, 39, 40, 41, 42, 43, 44, 45, 46, 47, 48, 49, 50, 51, 52, 53, 54, 55, 56, 57, 58, 59, 60, 61, 62, 63, 64, 65, 66, 67, 68, 69, 70]
def yeinB (ks : List Nat) (e : YE) (v : XV) : Bool := match v with
  | .inl q => decide (e.1 = 0 ∧ q.1 = q.2 ∧ e.2.1 ≤ q.1 ∧ q.1 ≤ e.2.2 ∧ -2147483648 ≤ q.1 ∧ q.1 ≤ 2147483647)
  | .inr (.inr q) => decide (e.1 = 1 ∧ ((e.2.2 = 1 ∧ q = (0, 0)) ∨ (q.1 = 1 ∧ ks[q.2]? = some e.2.1.toNat)))
  | .inr (.inl (some z)) => decide (e.1 = 2 ∧ (-9223372036854775808 ≤ z ∧ z ≤ 9223372036854775807) ∧ (e.2.1 = 1 → z ≠ 0) ∧ (e.2.1 = 2 → z = e.2.2))
  | .inr (.inl none) => false
theorem yeinB_ok {ks : List Nat} {e : YE} {v : XV} (h : yeinB ks e v = true) : yein ks e v := by
  obtain ⟨t, a, b⟩ := e
  match v, h with
  | .inl (x, y), h =>
    obtain ⟨h1, h2, h3, h4, h5, h6⟩ := of_decide_eq_true h
    dsimp only at h1 h2 h3 h4 h5 h6
    subst h1 h2
    exact ⟨x, rfl, h3, h4, h5, h6⟩
  | .inr (.inr (x, y)), h =>
    obtain ⟨h1, h2⟩ := of_decide_eq_true h
    dsimp only at h1 h2
    subst h1
    rcases h2 with ⟨h2, h3⟩ | ⟨h2, h3⟩
    · exact Or.inl ⟨h2, by rw [h3]⟩
    · subst h2
      exact Or.inr ⟨y, rfl, h3⟩
  | .inr (.inl (some z)), h =>
    obtain ⟨h1, h2, h3, h4⟩ := of_decide_eq_true h
    dsimp only at h1 h2 h3 h4
    subst h1
    exact ⟨z, rfl, h2, h3, h4⟩
  | .inr (.inl none), h => cases h
def yanyB (ks : List Nat) (es : List YE) (v : XV) : Bool := es.any (fun e => yeinB ks e v)
theorem yanyB_ok {ks : List Nat} {es : List YE} {v : XV} (h : yanyB ks es v = true) : yany ks es v := by
  obtain ⟨e, he, h1⟩ := List.any_eq_true.mp h
  exact ⟨e, he, yeinB_ok h1⟩
def ycellB (ks : List Nat) : YK → XC → Bool
  | .inl d, .inl c => decide (c.1 = d.1 ∧ c.2.length = d.2.length) && (d.2.zip c.2).all (fun q => yanyB ks q.1 q.2)
  | .inr d, .inr c => decide (c.1 = d.1 ∧ c.2.length = d.2.1) && c.2.all (fun v => yanyB ks d.2.2 v)
  | _, _ => false
theorem ycellB_ok {ks : List Nat} {d : YK} {c : XC} (h : ycellB ks d c = true) : ycell ks d c := by
  match d, c, h with
  | .inl d, .inl c, h =>
    have h := (Bool.and_eq_true _ _).mp h
    obtain ⟨h1, h2⟩ := of_decide_eq_true h.1
    exact ⟨h1, h2, fun f es v a1 a2 => yanyB_ok (List.all_eq_true.mp h.2 (es, v) (List.mem_of_getElem? (List.getElem?_zip_eq_some.mpr ⟨a1, a2⟩)))⟩
  | .inr d, .inr c, h =>
    have h := (Bool.and_eq_true _ _).mp h
    obtain ⟨h1, h2⟩ := of_decide_eq_true h.1
    exact ⟨h1, h2, fun i v a => yanyB_ok (List.all_eq_true.mp h.2 v (List.mem_of_getElem? a))⟩
  | .inl _, .inr _, h => cases h
  | .inr _, .inl _, h => cases h
def yheapB (KD : Nat → Option YK) (ks : List Nat) (w : XW) : Bool := decide (w.length = ks.length) && (ks.zip w).all (fun q => match KD q.1 with
  | some d => ycellB ks d q.2
  | none => false)
theorem yheapB_ok {KD : Nat → Option YK} {ks : List Nat} {w : XW} (h : yheapB KD ks w = true) : yheap0 KD ks w := by
  have h := (Bool.and_eq_true _ _).mp h
  have hl := of_decide_eq_true h.1
  refine ⟨hl, fun i k hk => ?_⟩
  have hi : i < w.length := by
    rw [hl]
    exact (List.getElem?_eq_some_iff.mp hk).1
  have hc : w[i]? = some w[i] := List.getElem?_eq_getElem hi
  have hq := List.all_eq_true.mp h.2 (k, w[i]) (List.mem_of_getElem? (List.getElem?_zip_eq_some.mpr ⟨hk, hc⟩))
  dsimp only at hq
  split at hq
  · rename_i d hd
    exact ⟨d, w[i], hd, hc, ycellB_ok hq⟩
  · cases hq
theorem yat_ok {ks : List Nat} {k : Nat} {f : Nat → Bool} (h : (List.range ks.length).all (fun p => !decide (ks[p]? = some k) || f p) = true) {p : Nat} (hp : ks[p]? = some k) : f p = true := by
  have h1 := List.all_eq_true.mp h p (List.mem_range.mpr (List.getElem?_eq_some_iff.mp hp).1)
  rw [decide_eq_true hp] at h1
  exact h1
set_option maxRecDepth 100000 in
theorem yw0_0 : yheap0 yKD yKS0 xw0 := yheapB_ok (by decide +kernel)
theorem yu_0 {p : Nat} (h : yKS0[p]? = some 0) : p = 0 := of_decide_eq_true (yat_ok (f := fun p => decide (p = 0)) (by decide +kernel) h)
theorem yu_1 {p : Nat} (h : yKS0[p]? = some 1) : p = 1 := of_decide_eq_true (yat_ok (f := fun p => decide (p = 1)) (by decide +kernel) h)
theorem yu_32 {p : Nat} (h : yKS0[p]? = some 32) : p = 59 := of_decide_eq_true (yat_ok (f := fun p => decide (p = 59)) (by decide +kernel) h)
theorem yu_42 {p : Nat} (h : yKS0[p]? = some 42) : p = 69 := of_decide_eq_true (yat_ok (f := fun p => decide (p = 69)) (by decide +kernel) h)
theorem yu_58 {p : Nat} (h : yKS0[p]? = some 58) : p = 85 := of_decide_eq_true (yat_ok (f := fun p => decide (p = 85)) (by decide +kernel) h)
theorem yu_61 {p : Nat} (h : yKS0[p]? = some 61) : p = 88 := of_decide_eq_true (yat_ok (f := fun p => decide (p = 88)) (by decide +kernel) h)
theorem yu_30 {p : Nat} (h : yKS0[p]? = some 30) : p = 57 := of_decide_eq_true (yat_ok (f := fun p => decide (p = 57)) (by decide +kernel) h)
theorem yu_16 {p : Nat} (h : yKS0[p]? = some 16) : p = 12 := of_decide_eq_true (yat_ok (f := fun p => decide (p = 12)) (by decide +kernel) h)
theorem yu_20 {p : Nat} (h : yKS0[p]? = some 20) : p = 13 := of_decide_eq_true (yat_ok (f := fun p => decide (p = 13)) (by decide +kernel) h)
theorem yu_17 {p : Nat} (h : yKS0[p]? = some 17) : False := by cases (yat_ok (f := fun _ => false) (by decide +kernel) h)
theorem yw0 : yW yKS0 xw0 := by
  refine ⟨⟨yw0_0, ?_, fun p p' a b => (yu_58 a).trans (yu_58 b).symm, fun p p' a b => (yu_61 a).trans (yu_61 b).symm, fun p p' a b => (yu_30 a).trans (yu_30 b).symm, ?_, ?_, fun i c fs z a => (yu_17 a).elim, ?_⟩, rfl, rfl, fun p p' a b => (yu_16 a).trans (yu_16 b).symm, fun p p' a b => (yu_20 a).trans (yu_20 b).symm⟩
  · intro k hk p p' a b
    rcases hk with rfl | rfl | rfl
    · exact (yu_1 a).trans (yu_1 b).symm
    · exact (yu_32 a).trans (yu_32 b).symm
    · exact (yu_42 a).trans (yu_42 b).symm
  · intro i p c fs n t es j a _ hw hf _ hj
    cases yu_0 a
    cases hw
    cases hf
    omega
  · intro i p c fs n t es j a _ hw hf _ hj
    cases yu_0 a
    cases hw
    cases hf
    omega
  · intro i p q c fs n t a u b j z h0 _ _ hw hf _ _ hj
    cases yu_30 h0
    cases hw
    cases hf
    omega
