/-! ===== typed steps: putfield, arrays ===== -/
def yfit (t : FieldType) (v : YV) : Bool := match t with
  | .int => decide (ykd v = 0)
  | .long => decide (ykd v = 1)
  | .object _ => decide (ykd v = 2)
  | .array _ => decide (ykd v = 2)
  | _ => false
theorem yfit_ok {r : YR} {v : YV} {x : XV} (hv : yvin r v x) {t : FieldType} (h : yfit t v = true) : xfit t x = true := by
  have hk := (ykd_ok hv).1
  unfold yfit at h
  match x, hk, t, h with
  | .inl _, hk, .int, _ => rfl
  | .inr (.inl _), hk, .int, h => rw [← hk] at h; exact absurd (of_decide_eq_true h) (by simp [xkd])
  | .inr (.inr _), hk, .int, h => rw [← hk] at h; exact absurd (of_decide_eq_true h) (by simp [xkd])
  | .inr (.inl _), hk, .long, _ => rfl
  | .inl _, hk, .long, h => rw [← hk] at h; exact absurd (of_decide_eq_true h) (by simp [xkd])
  | .inr (.inr _), hk, .long, h => rw [← hk] at h; exact absurd (of_decide_eq_true h) (by simp [xkd])
  | .inr (.inr _), hk, .object _, _ => rfl
  | .inl _, hk, .object _, h => rw [← hk] at h; exact absurd (of_decide_eq_true h) (by simp [xkd])
  | .inr (.inl _), hk, .object _, h => rw [← hk] at h; exact absurd (of_decide_eq_true h) (by simp [xkd])
  | .inr (.inr _), hk, .array _, _ => rfl
  | .inl _, hk, .array _, h => rw [← hk] at h; exact absurd (of_decide_eq_true h) (by simp [xkd])
  | .inr (.inl _), hk, .array _, h => rw [← hk] at h; exact absurd (of_decide_eq_true h) (by simp [xkd])
/-- a row, or a number -/
def ygk (K : YF) (s : Nat) : Bool := match (yf_e K)[s]? with
  | some (1, k, _) => decide (k.toNat = 3)
  | some (0, _, _) => true
  | _ => false
theorem ygk_ok {ks : List Nat} {w : XW} {r : YR} {K : YF} (h : yknow ks w r K) {s : Nat} (hs : ygk K s = true) : ∀ i, r s = .inr (.inr (1, i)) → ks[i]? = some 3 := fun i hi => by
  unfold ygk at hs
  split at hs
  · rename_i k n he
    have e := of_decide_eq_true hs
    rcases h.1 s _ he with ⟨_, e1⟩ | ⟨j, e1, e2⟩
    · rw [hi] at e1
      cases e1
    · rw [hi] at e1
      cases e1
      rw [e] at e2
      exact e2
  · rename_i lo hh he
    obtain ⟨z, e1, _⟩ := h.1 s _ he
    rw [hi] at e1
    cases e1
  · cases hs
theorem yrows_set {ks : List Nat} {w : XW} {i k : Nat} {c : XC} (hk : ks[i]? = some k) (hp : ypm 2 k = true) : yrows ks w (w.set i c) := fun j k' hj hk' => by
  have hne : i ≠ j := fun e => by
    subst e
    rw [hk] at hj
    cases hj
    unfold ypm at hp
    simp at hp
    omega
  rw [List.getElem?_set_ne hne]
theorem ygf_lt {ks : List Nat} {w : XW} {b : XV} {g : Nat} {x : XV} (hg : g < 100) (h : ygf ks w b g x) : ∃ i c fs, b = .inr (.inr (1, i)) ∧ w[i]? = some (.inl (c, fs)) ∧ fs[g]? = some x := by
  match b, h with
  | .inr (.inr (1, i)), h =>
    obtain ⟨c, fs, h1, h2⟩ := ygf_ref rfl hg h
    exact ⟨i, c, fs, rfl, h1, h2⟩
  | .inl q, h =>
    rcases h with ⟨h, _⟩ | ⟨h, _⟩ <;> omega
  | .inr (.inr (0, _)), h => exact h.elim
  | .inr (.inr (_ + 2, _)), h => exact h.elim
  | .inr (.inl _), h => exact h.elim
theorem ygf_103 {ks : List Nat} {w : XW} {b : XV} {x : XV} (h : ygf ks w b 103 x) : ∃ i, b = .inr (.inr (1, i)) ∧ y10 (ywd ks w i) x := by
  match b, h with
  | .inr (.inr (1, i)), h =>
    rcases h with ⟨h, _⟩ | ⟨h, _⟩ | ⟨_, h⟩ | ⟨h, _⟩
    · omega
    · omega
    · exact ⟨i, rfl, h⟩
    · omega
  | .inl q, h =>
    rcases h with ⟨h, _⟩ | ⟨h, _⟩ <;> omega
  | .inr (.inr (0, _)), h => exact h.elim
  | .inr (.inr (_ + 2, _)), h => exact h.elim
  | .inr (.inl _), h => exact h.elim
theorem ygf_104 {ks : List Nat} {w : XW} {b : XV} {x : XV} (h : ygf ks w b 104 x) : ∃ q, b = .inl q ∧ y01 (ysz ks w q.1) x := by
  match b, h with
  | .inr (.inr (1, i)), h => rcases h with ⟨h, _⟩ | ⟨h, _⟩ | ⟨h, _⟩ | ⟨h, _⟩ <;> omega
  | .inl q, h =>
    rcases h with ⟨h, _⟩ | ⟨_, h⟩
    · omega
    · exact ⟨q, rfl, h⟩
  | .inr (.inr (0, _)), h => exact h.elim
  | .inr (.inr (_ + 2, _)), h => exact h.elim
  | .inr (.inl _), h => exact h.elim
theorem ygf_106 {ks : List Nat} {w : XW} {b : XV} {x : XV} (h : ygf ks w b 106 x) : (∃ i, b = .inr (.inr (1, i))) ∧ ysm ks w x := by
  match b, h with
  | .inr (.inr (1, i)), h =>
    rcases h with ⟨h, _⟩ | ⟨h, _⟩ | ⟨h, _⟩ | ⟨_, h⟩
    · omega
    · omega
    · omega
    · exact ⟨⟨i, rfl⟩, h⟩
  | .inl q, h => rcases h with ⟨h, _⟩ | ⟨h, _⟩ <;> omega
  | .inr (.inr (0, _)), h => exact h.elim
  | .inr (.inr (_ + 2, _)), h => exact h.elim
  | .inr (.inl _), h => exact h.elim
theorem yga_of {w w' : XW} {z : Int} {x : XV} : ∀ {b : XV}, yga w b z x → (∀ (i : Nat) (a : Nat × List XV), b = .inr (.inr (1, i)) → w[i]? = some (.inr a) → w'[i]? = some (.inr a)) → yga w' b z x
  | .inr (.inr (1, i)), h, hw => by
    obtain ⟨h0, t, es, h1, h2⟩ := h
    exact ⟨h0, t, es, hw i _ rfl h1, h2⟩
  | .inl _, h, _ => h
  | .inr (.inl (some _)), h, _ => h
  | .inr (.inl none), h, _ => h.elim
  | .inr (.inr (0, _)), h, _ => h.elim
  | .inr (.inr (_ + 2, _)), h, _ => h.elim
/-- a symbol of another kind -/
def ykx (K : YF) (s k : Nat) : Bool := match (yf_e K)[s]? with
  | some (1, k', _) => decide (k'.toNat ≠ k)
  | _ => false
theorem ykx_ok {ks : List Nat} {w : XW} {r : YR} {K : YF} (h : yknow ks w r K) {s k i : Nat} (hs : ykx K s k = true) (hi : r s = .inr (.inr (1, i))) : ks[i]? ≠ some k := fun hk => by
  unfold ykx at hs
  split at hs
  · rename_i k' n he
    have e := of_decide_eq_true hs
    rcases h.1 s _ he with ⟨_, e1⟩ | ⟨j, e1, e2⟩
    · rw [hi] at e1
      cases e1
    · rw [hi] at e1
      cases e1
      rw [hk] at e2
      exact e (Option.some.inj e2).symm
  · cases hs
/-- what is known behind a change of a field -/
def ychf (s g k : Nat) (v : YV) (K : YF) : YF := (yf_e K, yf_f K, ((s, g), v) :: (yf_m K).filter (fun q => (decide (q.1.2 ≠ g) || ykx K q.1.1 k) && (decide (q.1.2 < 100) || ((decide (q.1.2 ≠ 103 ∧ q.1.2 ≠ 106) && (ypm 2 k && ygk K q.1.1)) || ((decide (q.1.2 = 103) && decide (¬ (k = 30 ∧ g = 36))) || decide (q.1.2 = 106))))), yf_a K, yf_l K)
theorem ychf_ok {ks : List Nat} {w : XW} {r : YR} {K : YF} (h : yknow ks w r K) {s g i c k : Nat} {fs : List XV} {v : YV} {x : XV} (hs : r s = .inr (.inr (1, i))) (hk : ks[i]? = some k) (hw : w[i]? = some (.inl (c, fs))) (hg : g < fs.length) (hg1 : g < 100) (hv : yvin r v x) : yknow ks (w.set i (.inl (c, fs.set g x))) r (ychf s g k v K) := by
  have hi : i < w.length := (List.getElem?_eq_some_iff.mp hw).1
  have hK := h
  obtain ⟨h1, h2, h3, h4, h5⟩ := h
  refine ⟨h1, h2, fun q hq => ?_, fun q hq => ?_, h5⟩
  · rcases List.mem_cons.mp hq with hq | hq
    · subst hq
      exact ⟨x, ygf_mk hs hg1 (List.getElem?_set_self hi) (List.getElem?_set_self hg), hv⟩
    · obtain ⟨q1, q2⟩ := List.mem_filter.mp hq
      rw [Bool.and_eq_true, Bool.or_eq_true, Bool.or_eq_true] at q2
      have q3 := q2.1
      obtain ⟨y, b1, b4⟩ := h3 q q1
      refine ⟨y, ?_, b4⟩
      rcases q2.2 with q4 | q4
      · have q4 := of_decide_eq_true q4
        obtain ⟨i', c', fs', e1, e2, e3⟩ := ygf_lt q4 b1
        by_cases hii : i = i'
        · subst hii
          rw [hw] at e2
          cases e2
          have q5 : q.1.2 ≠ g := by
            rcases q3 with q3 | q3
            · exact of_decide_eq_true q3
            · exact absurd hk (ykx_ok hK q3 e1)
          exact ygf_mk e1 q4 (List.getElem?_set_self hi) (by rw [List.getElem?_set_ne (fun e => q5 e.symm)]; exact e3)
        · exact ygf_mk e1 q4 (by rw [List.getElem?_set_ne hii]; exact e2) e3
      · rw [Bool.or_eq_true, Bool.or_eq_true, Bool.and_eq_true, Bool.and_eq_true, Bool.and_eq_true] at q4
        rcases q4 with ⟨q5, q4⟩ | ⟨q5, q4⟩ | q5
        · exact ygf_rows (yrows_set hk q4.1) (ygk_ok hK q4.2) (of_decide_eq_true q5) b1
        · have q5 := of_decide_eq_true q5
          have q4 := of_decide_eq_true q4
          rw [q5] at b1 ⊢
          obtain ⟨i', e1, z, e2, e3, e4, e5⟩ := ygf_103 b1
          rw [e1]
          refine Or.inr (Or.inr (Or.inl ⟨rfl, z, e2, e3, e4, fun hz => ⟨(e5 hz).1, fun c' fs' n p q' t a u b j z' k1 k2 k3 k4 k5 k6 k7 k8 k9 => ?_⟩⟩))
          obtain ⟨a1, a2⟩ := yset_f (g := g) (x := x) hw
          obtain ⟨fs1, l1, l2⟩ := a1 i' c' fs' k1
          refine (e5 hz).2 c' fs1 n p q' t a u b j z' l1 ?_ k3 k4 (a2 p _ k5) (a2 q' _ k6) k7 k8 k9
          rw [l2 36 (fun e e0 => q4 ⟨by
            have h30 := (e5 hz).1
            rw [e, hk] at h30
            exact Option.some.inj h30, e0.symm⟩)]
          exact k2
        · have q5 := of_decide_eq_true q5
          rw [q5] at b1 ⊢
          obtain ⟨⟨i', e1⟩, p, t, es, e2, e3, e4⟩ := ygf_106 b1
          rw [e1]
          refine Or.inr (Or.inr (Or.inr ⟨rfl, p, t, es, e2, ?_, e4⟩))
          have hip : i ≠ p := fun e => by
            rw [e, e3] at hw
            cases hw
          rw [List.getElem?_set_ne hip]
          exact e3
  · obtain ⟨y, b1, b2⟩ := h4 q hq
    refine ⟨y, yga_of b1 (fun i' a e1 e2 => ?_), b2⟩
    have hii : i ≠ i' := fun e => by
      subst e
      rw [hw] at e2
      cases e2
    rw [List.getElem?_set_ne hii]
    exact e2
/-- what is known behind a change of a place: of arrays of other kinds all, of this kind nothing but that -/
def ycha (s : Nat) (k : Int) (x : YL) (v : YV) (K : YF) : YF := (yf_e K, yf_f K, (yf_m K).filter (fun q => decide (q.1.2 < 100) || ((decide (q.1.2 ≠ 103 ∧ q.1.2 ≠ 106) && (ypm 2 k.toNat && ygk K q.1.1)) || ((decide (q.1.2 = 103) && decide (¬ (k.toNat = 58 ∨ k.toNat = 61))) || (decide (q.1.2 = 106) && decide (k.toNat ≠ 42))))), ((s, x), v) :: (yf_a K).filter (fun q => match (yf_e K)[q.1.1]? with
  | some (1, k', _) => decide (k'.toNat ≠ k.toNat)
  | some (0, _, _) => true
  | some (2, _, _) => true
  | _ => false), yf_l K)
theorem ycha_ok {ks : List Nat} {w : XW} {r : YR} {K : YF} (h : yknow ks w r K) {s i t : Nat} {k : Int} {es : List XV} {j : YL} {v : YV} {x : XV} (hs : r s = .inr (.inr (1, i))) (hk : ks[i]? = some k.toNat) (hw : w[i]? = some (.inr (t, es))) (hj0 : 0 ≤ yev (yi r) j) (hj : (yev (yi r) j).toNat < es.length) (hv : yvin r v x) : yknow ks (w.set i (.inr (t, es.set (yev (yi r) j).toNat x))) r (ycha s k j v K) := by
  have hi : i < w.length := (List.getElem?_eq_some_iff.mp hw).1
  have hK := h
  obtain ⟨h1, h2, h3, h4, h5⟩ := h
  refine ⟨h1, h2, fun q hq => ?_, fun q hq => ?_, h5⟩
  · obtain ⟨q1, q2⟩ := List.mem_filter.mp hq
    rw [Bool.or_eq_true] at q2
    obtain ⟨y, b1, b4⟩ := h3 q q1
    refine ⟨y, ?_, b4⟩
    rcases q2 with q4 | q4
    · have q4 := of_decide_eq_true q4
      obtain ⟨i', c', fs', e1, e2, e3⟩ := ygf_lt q4 b1
      have hii : i ≠ i' := fun e => by
        subst e
        rw [hw] at e2
        cases e2
      exact ygf_mk e1 q4 (by rw [List.getElem?_set_ne hii]; exact e2) e3
    · rw [Bool.or_eq_true, Bool.or_eq_true, Bool.and_eq_true, Bool.and_eq_true, Bool.and_eq_true, Bool.and_eq_true] at q4
      rcases q4 with ⟨q5, q4⟩ | ⟨q5, q4⟩ | ⟨q5, q4⟩
      · exact ygf_rows (yrows_set hk q4.1) (ygk_ok hK q4.2) (of_decide_eq_true q5) b1
      · have q5 := of_decide_eq_true q5
        have q4 := of_decide_eq_true q4
        rw [q5] at b1 ⊢
        obtain ⟨i', e1, z, e2, e3, e4, e5⟩ := ygf_103 b1
        rw [e1]
        refine Or.inr (Or.inr (Or.inl ⟨rfl, z, e2, e3, e4, fun hz => ⟨(e5 hz).1, fun c' fs' n p q' t' a u b j' z' k1 k2 k3 k4 k5 k6 k7 k8 k9 => ?_⟩⟩))
        obtain ⟨a1, a2⟩ := yset_a (es1 := es.set (yev (yi r) j).toNat x) hw
        have ne : ∀ (p k' : Nat), ks[p]? = some k' → (k' = 58 ∨ k' = 61) → p ≠ i := fun p k' hp hkk e => by
          rw [e, hk] at hp
          exact q4 (by rw [Option.some.inj hp]; exact hkk)
        exact (e5 hz).2 c' fs' n p q' t' a u b j' z' (a1 i' _ k1) k2 k3 k4 (a2 p _ k5 (ne p 58 k3 (Or.inl rfl))) (a2 q' _ k6 (ne q' 61 k4 (Or.inr rfl))) k7 k8 k9
      · have q5 := of_decide_eq_true q5
        have q4 := of_decide_eq_true q4
        rw [q5] at b1 ⊢
        obtain ⟨⟨i', e1⟩, p, t', es', e2, e3, e4⟩ := ygf_106 b1
        rw [e1]
        refine Or.inr (Or.inr (Or.inr ⟨rfl, p, t', es', e2, ?_, e4⟩))
        have hip : i ≠ p := fun e => by
          rw [e, e2] at hk
          exact q4 (Option.some.inj hk).symm
        rw [List.getElem?_set_ne hip]
        exact e3
  · rcases List.mem_cons.mp hq with hq | hq
    · subst hq
      refine ⟨x, ?_, hv⟩
      show yga _ (r s) _ x
      rw [hs]
      exact ⟨hj0, t, _, List.getElem?_set_self hi, List.getElem?_set_self hj⟩
    · obtain ⟨q1, q2⟩ := List.mem_filter.mp hq
      obtain ⟨y, b1, b2⟩ := h4 q q1
      refine ⟨y, yga_of b1 (fun i' a e1 e2 => ?_), b2⟩
      have hii : i ≠ i' := fun e => by
        subst e
        split at q2
        · rename_i k' n' he
          have q3 := of_decide_eq_true q2
          rcases h1 q.1.1 _ he with ⟨_, e3⟩ | ⟨i2, e3, e4⟩
          · rw [e1] at e3
            cases e3
          · rw [e1] at e3
            cases e3
            rw [hk] at e4
            exact q3 (Option.some.inj e4).symm
        · rename_i he
          obtain ⟨z, e3, _⟩ := h1 q.1.1 _ he
          rw [e1] at e3
          cases e3
        · rename_i he
          obtain ⟨z, e3, _⟩ := h1 q.1.1 _ he
          rw [e1] at e3
          cases e3
        · cases q2
      rw [List.getElem?_set_ne hii]
      exact e2
-- what is looked after: a model's word that isn't counted yet may be written; it is counted when what it tells of fits
theorem ysp_word {ks : List Nat} {w : XW} (h : ysp ks w) {i0 k t0 : Nat} {es0 : List XV} {z : Nat} {x : XV} (hk : ks[i0]? = some k) (hw : w[i0]? = some (.inr (t0, es0))) (hkk : k = 58 ∨ k = 61) (hz : ∀ (i c : Nat) (fs : List XV) (n : Int), ks[i]? = some 30 → w[i]? = some (.inl (c, fs)) → fs[36]? = some (.inl (n, n)) → n ≤ (z : Int)) : ysp ks (w.set i0 (.inr (t0, es0.set z x))) := by
  obtain ⟨s1, s2, s3, s4, s5, s6, s7, s8⟩ := h
  obtain ⟨a1, a2⟩ := yset_a (es1 := es0.set z x) hw
  have hi : i0 < w.length := (List.getElem?_eq_some_iff.mp hw).1
  have ne : ∀ (p k' : Nat), ks[p]? = some k' → k' ≠ k → p ≠ i0 := fun p k' hp hf e => by
    subst e
    rw [hk] at hp
    exact hf (Option.some.inj hp).symm
  -- an element below the count is as it was
  have el : ∀ (p t : Nat) (a : List XV) (j : Nat) (y : XV) (n : Int), (w.set i0 (.inr (t0, es0.set z x)))[p]? = some (.inr (t, a)) → a[j]? = some y → (j : Int) < n → n ≤ (z : Int) → ∃ t' a', w[p]? = some (.inr (t', a')) ∧ a'[j]? = some y := fun p t a j y n hp hy hj hn => by
    by_cases e : p = i0
    · subst e
      rw [List.getElem?_set_self hi] at hp
      cases hp
      exact ⟨_, _, hw, by rw [List.getElem?_set_ne (by omega)] at hy; exact hy⟩
    · exact ⟨t, a, a2 p _ hp e, hy⟩
  refine ⟨s1, s2, s3, s4, fun i p c fs n t es j h1 h2 h3 h4 h5 h6 => ?_, fun i p c fs n t es j h1 h2 h3 h4 h5 h6 => ?_, fun i c fs z h1 h2 h3 h4 => ?_, fun i p q c fs n t a u b j z h1 h2 h3 h4 h5 h6 h7 h8 h9 h10 => ?_⟩
  · exact s5 i p c fs n t es j h1 h2 (a1 i _ h3) h4 (a2 p _ h5 (ne p 16 h2 (by omega))) h6
  · exact s6 i p c fs n t es j h1 h2 (a1 i _ h3) h4 (a2 p _ h5 (ne p 20 h2 (by omega))) h6
  · exact s7 i c fs z h1 (a1 i _ h2) h3 h4
  · have hn := hz i c fs n h1 (a1 i _ h4) h5
    obtain ⟨t', a', b1, b2⟩ := el p t a j _ n h6 h9 h8 hn
    obtain ⟨u', b', b3, b4⟩ := el q u b j _ n h7 h10 h8 hn
    exact s8 i p q c fs n t' a' u' b' j z h1 h2 h3 (a1 i _ h4) h5 b1 b3 h8 b2 b4
theorem ysp_count {ks : List Nat} {w : XW} (h : ysp ks w) {i0 cl : Nat} {fs0 : List XV} {n1 m : Int} (hk : ks[i0]? = some 30) (hw : w[i0]? = some (.inl (cl, fs0))) (hn : fs0[36]? = some (.inl (n1, n1))) (hm : m = n1 + 1) (hl : 36 < fs0.length) (hz : ∀ (p q t : Nat) (a : List XV) (u : Nat) (b : List XV) (j : Nat) (z : Int), ks[p]? = some 58 → ks[q]? = some 61 → w[p]? = some (.inr (t, a)) → w[q]? = some (.inr (u, b)) → (j : Int) = n1 → a[j]? = some (.inl (2, 2)) → b[j]? = some (.inl (z, z)) → z ≤ 39) : ysp ks (w.set i0 (.inl (cl, fs0.set 36 (.inl (m, m))))) := by
  obtain ⟨s1, s2, s3, s4, s5, s6, s7, s8⟩ := h
  obtain ⟨a1, a2⟩ := yset_f (g := 36) (x := .inl (m, m)) hw
  have hi : i0 < w.length := (List.getElem?_eq_some_iff.mp hw).1
  have ne : ∀ (i k' : Nat), ks[i]? = some k' → k' ≠ 30 → ∀ f, i = i0 → f ≠ 36 := fun i k' hik hf f e => by
    rw [e, hk] at hik
    exact absurd (Option.some.inj hik).symm hf
  refine ⟨s1, s2, s3, s4, fun i p c fs n t es j h1 h2 h3 h4 h5 h6 => ?_, fun i p c fs n t es j h1 h2 h3 h4 h5 h6 => ?_, fun i c fs z h1 h2 h3 h4 => ?_, fun i p q c fs n t a u b j z h1 h2 h3 h4 h5 h6 h7 h8 h9 h10 => ?_⟩
  · obtain ⟨fs1, b1, b2⟩ := a1 i c fs h3
    exact s5 i p c fs1 n t es j h1 h2 b1 (by rw [b2 10 (ne i 0 h1 (by decide) 10)]; exact h4) (a2 p _ h5) h6
  · obtain ⟨fs1, b1, b2⟩ := a1 i c fs h3
    exact s6 i p c fs1 n t es j h1 h2 b1 (by rw [b2 11 (ne i 0 h1 (by decide) 11)]; exact h4) (a2 p _ h5) h6
  · obtain ⟨fs1, b1, b2⟩ := a1 i c fs h2
    exact s7 i c fs1 z h1 b1 (by rw [b2 0 (ne i 17 h1 (by decide) 0)]; exact h3) (by rw [b2 3 (ne i 17 h1 (by decide) 3)]; exact h4)
  · have e := s4 i i0 h1 hk
    subst e
    rw [List.getElem?_set_self hi] at h4
    cases h4
    rw [List.getElem?_set_self hl] at h5
    cases h5
    by_cases hj : (j : Int) < n1
    · exact s8 i p q cl fs0 n1 t a u b j z h1 h2 h3 hw hn (a2 p _ h6) (a2 q _ h7) hj h9 h10
    · exact hz p q t a u b j z h2 h3 (a2 p _ h6) (a2 q _ h7) (by omega) h9 h10
section YI
variable {f : XS → Option XR} {J : XS → XS → Prop} {Post : Option XV × XW × Nat × Nat → Prop} {KD : Nat → Option YK} {ks : List Nat} {ow : XW → Prop} {n0 : Nat} {r0 : YR} {Y : YS} {outs : List YO}
/-- the kind of a symbol -/
def yki (K : YF) (s : Nat) : Option Nat := match (yf_e K)[s]? with
  | some (1, k, _) => some k.toNat
  | _ => none
theorem yki_ok {w : XW} {r : YR} {K : YF} (h : yknow ks w r K) {s i k : Nat} (hs : yki K s = some k) (hi : r s = .inr (.inr (1, i))) : ks[i]? = some k := by
  unfold yki at hs
  split at hs
  · rename_i k' n he
    cases hs
    rcases h.1 s _ he with ⟨_, e1⟩ | ⟨j, e1, e2⟩
    · rw [hi] at e1
      cases e1
    · rw [hi] at e1
      cases e1
      exact e2
  · cases hs
def yge1 (K : YF) : YV → Bool
  | .inl v => yprv K (ydf v (ycst 1) 0)
  | _ => false
theorem yge1_ok {w : XW} {r : YR} {K : YF} (h3 : yknow ks w r K) {v : YV} {x : XV} (hv : yvin r v x) (h : yge1 K v = true) : ∃ z, x = .inl (z, z) ∧ 1 ≤ z := by
  match v, hv, h with
  | .inl y, hv, h =>
    have c6 := yprv_ok h3 (show yprv K (ydf y (ycst 1) 0) = true from h)
    rw [ydf_ev, ycst_ev] at c6
    exact ⟨_, hv.1, by omega⟩
  | .inr (.inl _), _, h => cases h
  | .inr (.inr _), _, h => cases h
/-- the word that isn't counted yet fits, by what was read -/
def yd103 (K : YF) (s : Nat) : Bool := decide (yki K s = some 30) && (yf_m K).any (fun p => decide (p.1 = (s, 36)) && (match p.2 with
  | .inl n => (yf_a K).any (fun a => decide (yki K a.1.1 = some 58) && (decide (a.1.2 = n) && (yf_a K).any (fun b => decide (yki K b.1.1 = some 61) && (decide (b.1.2 = n) && (match a.2, b.2 with
    | .inl v1, .inl v2 => yprv K (ydf (ycst 39) v2 0) || (yprv K (ydf (ycst 1) v1 0) || yprv K (ydf v1 (ycst 3) 0))
    | _, _ => false)))))
  | _ => false))
/-- a word is counted: what it tells of fits -/
def ycp (K : YF) (k s g : Nat) (v : YV) : Bool := decide (k = 30 ∧ g = 36) && (((yf_m K).any (fun m => decide (m.1 = (s, 103)) && yge1 K m.2) || yd103 K s) && (yf_m K).any (fun p => decide (p.1 = (s, 36)) && (match p.2, v with
  | .inl n, .inl y => yprv K (ydf y n 1) && yprv K (yadd (ydf n y 0) 1 (ycst 1))
  | _, _ => false)))
theorem yga_ref {w : XW} {b : XV} {z : Int} {x : XV} (h : yga w b z x) {i : Nat} (hb : b = .inr (.inr (1, i))) : 0 ≤ z ∧ ∃ t es, w[i]? = some (.inr (t, es)) ∧ es[z.toNat]? = some x := by
  rw [hb] at h
  exact h
theorem yki_ref {w : XW} {r : YR} {K : YF} (h : yknow ks w r K) {s k : Nat} (hs : yki K s = some k) {z : Int} {x : XV} (hx : yga w (r s) z x) : ∃ i t es, r s = .inr (.inr (1, i)) ∧ ks[i]? = some k ∧ w[i]? = some (.inr (t, es)) ∧ 0 ≤ z ∧ es[z.toNat]? = some x := by
  have hs' := hs
  unfold yki at hs
  split at hs
  · rename_i k' n he
    cases hs
    rcases h.1 s _ he with ⟨_, e1⟩ | ⟨j, e1, e2⟩
    · rw [e1] at hx
      exact hx.elim
    · obtain ⟨z0, t, es, h1, h2⟩ := yga_ref hx e1
      exact ⟨j, t, es, e1, e2, h1, z0, h2⟩
  · cases hs
theorem yd103_ok {w : XW} {r : YR} {K : YF} (h3 : yknow ks w r K) (h4 : ysp ks w) {s i : Nat} (hs : r s = .inr (.inr (1, i))) (h : yd103 K s = true) : ywd ks w i := by
  unfold yd103 at h
  rw [Bool.and_eq_true] at h
  obtain ⟨h0, h⟩ := h
  have hk := yki_ok h3 (of_decide_eq_true h0) hs
  refine ⟨hk, fun c' fs' n' p' q' t' a' u' b' j z k1 k2 k3 k4 k5 k6 hj ha' hb' => ?_⟩
  obtain ⟨p, hp, h⟩ := List.any_eq_true.mp h
  rw [Bool.and_eq_true] at h
  obtain ⟨hc4, hc2⟩ := h
  have e1 : p.1 = (s, 36) := of_decide_eq_true hc4
  obtain ⟨y0, b1, b2⟩ := h3.2.2.1 p hp
  rw [e1] at b1
  have b1 : ygf ks w (r s) 36 y0 := b1
  obtain ⟨c, fs, d1, d2⟩ := ygf_ref hs (by decide) b1
  rw [k1] at d1
  cases d1
  split at hc2
  · rename_i n hpn
    rw [hpn] at b2
    obtain ⟨a, ha, c3⟩ := List.any_eq_true.mp hc2
    rw [Bool.and_eq_true, Bool.and_eq_true] at c3
    obtain ⟨a1, a2, c3⟩ := c3
    have a1 := of_decide_eq_true a1
    have a2 := of_decide_eq_true a2
    obtain ⟨b, hb, c3⟩ := List.any_eq_true.mp c3
    rw [Bool.and_eq_true, Bool.and_eq_true] at c3
    obtain ⟨b3, b4, c3⟩ := c3
    have b3 := of_decide_eq_true b3
    have b4 := of_decide_eq_true b4
    obtain ⟨xa, xa1, xa2⟩ := h3.2.2.2.1 a ha
    obtain ⟨xb, xb1, xb2⟩ := h3.2.2.2.1 b hb
    obtain ⟨ia, ta, ea, _, ka, wa, _, ra⟩ := yki_ref h3 a1 xa1
    obtain ⟨ib, tb, eb, _, kb, wb, _, rb⟩ := yki_ref h3 b3 xb1
    rw [a2] at ra
    rw [b4] at rb
    split at c3
    · rename_i v1 v2 e5 e6
      rw [e5] at xa2
      rw [e6] at xb2
      have e7 := h4.2.1 p' ia k3 ka
      have e8 := h4.2.2.1 q' ib k4 kb
      subst e7
      subst e8
      rw [wa] at k5
      cases k5
      rw [wb] at k6
      cases k6
      rw [k2, b2.1] at d2
      have e10 : n' = yev (yi r) n := congrArg (fun u => match u with
        | some (.inl q) => q.1
        | _ => 0) d2
      have e9 : (yev (yi r) n).toNat = j := by omega
      rw [e9] at ra rb
      rw [ra] at ha'
      rw [rb] at hb'
      have f1 := Option.some.inj ha'
      have f2 := Option.some.inj hb'
      rw [xa2.1] at f1
      rw [xb2.1] at f2
      have f1 : yev (yi r) v1 = 2 := congrArg (fun u => match u with
        | .inl q => q.1
        | _ => 0) f1
      have f2 : yev (yi r) v2 = z := congrArg (fun u => match u with
        | .inl q => q.1
        | _ => 0) f2
      rw [Bool.or_eq_true, Bool.or_eq_true] at c3
      rcases c3 with c3 | c3 | c3
      · have c4 := yprv_ok h3 c3
        rw [ydf_ev, ycst_ev] at c4
        omega
      · have c4 := yprv_ok h3 c3
        rw [ydf_ev, ycst_ev] at c4
        omega
      · have c4 := yprv_ok h3 c3
        rw [ydf_ev, ycst_ev] at c4
        omega
    · cases c3
  · cases hc2
theorem ycp_ok {w : XW} {r : YR} {K : YF} (h3 : yknow ks w r K) (h4 : ysp ks w) {k s g i c : Nat} {fs : List XV} {v : YV} {x : XV} (hv : yvin r v x) (hs : r s = .inr (.inr (1, i))) (hk : ks[i]? = some k) (hw : w[i]? = some (.inl (c, fs))) (hc : ycp K k s g v = true) : ysp ks (w.set i (.inl (c, fs.set g x))) := by
  unfold ycp at hc
  rw [Bool.and_eq_true, Bool.and_eq_true, Bool.or_eq_true] at hc
  obtain ⟨hc0, hcg, hc1⟩ := hc
  obtain ⟨rfl, rfl⟩ := of_decide_eq_true hc0
  clear hc0
  have hwd : ywd ks w i := by
    rcases hcg with hcg | hcg
    · obtain ⟨m, hm, hm2⟩ := List.any_eq_true.mp hcg
      rw [Bool.and_eq_true] at hm2
      have e1 : m.1 = (s, 103) := of_decide_eq_true hm2.1
      obtain ⟨y, y1, y2⟩ := h3.2.2.1 m hm
      rw [e1] at y1
      obtain ⟨i', e2, z, e3, _, _, e6⟩ := ygf_103 y1
      have e2 : r s = .inr (.inr (1, i')) := e2
      rw [hs] at e2
      cases e2
      obtain ⟨z', z1, z2⟩ := yge1_ok h3 y2 hm2.2
      rw [z1] at e3
      have : z' = z := congrArg (fun u => match u with
        | .inl q => q.1
        | _ => 0) e3
      exact e6 (by omega)
    · exact yd103_ok h3 h4 hs hcg
  obtain ⟨p, hp, hc3⟩ := List.any_eq_true.mp hc1
  clear hc1 hcg
  rw [Bool.and_eq_true] at hc3
  obtain ⟨hc4, hc2⟩ := hc3
  have e1 : p.1 = (s, 36) := of_decide_eq_true hc4
  obtain ⟨y0, b1, b2⟩ := h3.2.2.1 p hp
  rw [e1] at b1
  have b1 : ygf ks w (r s) 36 y0 := b1
  obtain ⟨c', fs', d1, d2⟩ := ygf_ref hs (by decide) b1
  rw [hw] at d1
  cases d1
  split at hc2
  · rename_i n y hpn
    rw [hpn] at b2
    rw [Bool.and_eq_true] at hc2
    obtain ⟨c1, c2⟩ := hc2
    have c1 := yprv_ok h3 c1
    have c2 := yprv_ok h3 c2
    rw [ydf_ev] at c1
    rw [yadd_ev, ydf_ev, ycst_ev] at c2
    obtain ⟨rfl, _⟩ := hv
    rw [b2.1] at d2
    have hl : 36 < fs.length := (List.getElem?_eq_some_iff.mp d2).1
    exact ysp_count h4 hk hw d2 (by omega) hl (fun p q t a' u b' j z k1 k2 k3 k4 hj ha' hb' => hwd.2 c fs _ p q t a' u b' j z hw d2 k1 k2 k3 k4 hj ha' hb')
  · cases hc2
def yh_put (KD : Nat → Option YK) (pu c g : Nat) (ty : Option FieldType) (Y : YS) : Option (List YO) := match Y.2.2.1, ty with
  | v :: .inr (.inr (0, s)) :: t, some ty => (match (yf_e Y.2.2.2)[s]? with
    | some (1, k, n) => (match KD k.toNat with
      | some (.inl (cl, fa)) => (match fa[g]? with
        | some es => if cl = c ∧ n ≠ 1 ∧ g < 100 ∧ (ypm pu k.toNat && ((ypf k.toNat g || ycp Y.2.2.2 k.toNat s g v) && (yfit ty v && yfits Y.2.2.2 es v))) = true then some [.inl (Y.1 + 3, Y.2.1, t, ychf s g k.toNat v Y.2.2.2)] else none
        | none => none)
      | _ => none)
    | _ => none)
  | _, _ => none
theorem yo_put {pu c g : Nat} {ty : Option FieldType} (ho : ymd pu ks ow) (h : yh_put KD pu c g ty Y = some outs) (hg : ∀ o ∈ outs, ygoodO f J Post KD ks ow n0 r0 o) : yone f J Post KD ks ow n0 r0 Y (fun lv st w => xh_put c g ty Y.1 lv st w 0 0) := by
  unfold yh_put at h
  split at h
  · rename_i v s t ty hs
    split at h
    · rename_i k n he
      split at h
      · rename_i cl fa hd
        split at h
        · rename_i es hes
          split at h
          · rename_i hc
            obtain ⟨rfl, hn, hg1, hf⟩ := hc
            rw [Bool.and_eq_true, Bool.and_eq_true, Bool.and_eq_true, Bool.or_eq_true] at hf
            obtain ⟨f1, f2, f3, f4⟩ := hf
            cases h
            intro h0 r w lv st hr h1 h2 h3 h4
            rw [hs] at h2
            obtain ⟨x1, st1, e1, a1, x2, st2, e2, ⟨a2, _⟩, a3⟩ := h2
            subst e1
            subst e2
            obtain ⟨i, hv, hk⟩ := (h3.1 s _ he).resolve_left (fun hh => hn hh.1)
            have e3 : x2 = .inr (.inr (1, i)) := a2.trans hv
            subst e3
            obtain ⟨fs, w1, w2, w3⟩ := yheap_f h4.1 hk hd
            have hl : g < fs.length := by
              rw [w2]
              exact (List.getElem?_eq_some_iff.mp hes).1
            have hsp : ysp ks (w.set i (.inl (cl, fs.set g x1))) := by
              rcases f2 with f2 | f2
              · exact ysp_setf h4.1.2 hk w1 f2
              · exact ycp_ok h3 h4.1.2 a1 hv hk w1 f2
            refine ⟨.inl (Y.1 + 3, lv, st2, w.set i (.inl (cl, fs.set g x1)), 0, 0), ?_, yuse (hg _ List.mem_cons_self) h0 hr rfl h1 a3 (ychf_ok h3 hv hk w1 hl hg1 a1) ⟨⟨yheap0_setf h4.1 hk hd w1 hes (yfits_ok h3 a1 f4), hsp⟩, ymd_set ho f1 hk h4.2⟩⟩
            show xh_put cl g (some ty) Y.1 lv (x1 :: .inr (.inr (1, i)) :: st2) w 0 0 = _
            unfold xh_put
            dsimp only
            rw [if_pos rfl, w1]
            dsimp only
            rw [if_pos ⟨rfl, hl, yfit_ok a1 f3⟩]
          · cases h
        · cases h
      · cases h
    · cases h
  · cases h
theorem xread_ex {es : List XV} {z : Int} (h0 : 0 ≤ z) (h1 : z.toNat < es.length) : ∃ y, es[z.toNat]? = some y ∧ xread es (z, z) = some y := by
  obtain ⟨y, hy⟩ : ∃ y, es[z.toNat]? = some y := ⟨_, List.getElem?_eq_getElem h1⟩
  refine ⟨y, hy, ?_⟩
  unfold xread
  rw [if_pos ⟨h0, by show z < (es.length : Int); omega⟩, if_pos rfl]
  exact hy
/-- below a count -/
def ycnt (K : YF) (g : Nat) (x : YL) : Bool := (yf_m K).any (fun q => decide (q.1.2 = g) && (decide (yki K q.1.1 = some 0) && (match q.2 with
  | .inl n => yprv K (ydf n x 1)
  | _ => false)))
def yw2 (K : YF) (x : YL) : Bool := (yf_a K).any (fun q => decide (yki K q.1.1 = some 58) && (decide (q.1.2 = x) && yis K 2 q.2)) && (yf_m K).any (fun q => decide (q.1.2 = 36) && (decide (yki K q.1.1 = some 30) && (match q.2 with
  | .inl n => yprv K (ydf n x 1)
  | _ => false)))
def yww (K : YF) (s : Nat) (x : YL) : Bool := (yf_m K).any (fun q => decide (q.1.2 = 0 ∧ q.2 = .inr (.inr (0, s))) && ((yf_m K).any (fun p => decide (p.1 = (q.1.1, 100)) && yge1 K p.2) && (yf_m K).any (fun p => decide (p.1 = (q.1.1, 1)) && (match p.2 with
  | .inl n => yprv K (ydf n x 1)
  | _ => false))))
def y104 (K : YF) (x : YL) : Bool := (yf_m K).any (fun q => decide (q.1.2 = 104 ∧ x = ysym q.1.1) && yge1 K q.2)
/-- what may stand in a place, by what is known besides -/
def yral (K : YF) (k s : Nat) (x : YL) (ea : List YE) : List YE := if k = 16 ∧ ea = [(1, 17, 1)] ∧ ycnt K 10 x = true then [(1, 17, 0)] else if k = 20 ∧ ea = [(1, 21, 1)] ∧ ycnt K 11 x = true then [(1, 21, 0)] else if k = 61 ∧ ea = [(0, 0, 63)] ∧ yw2 K x = true then [(0, 0, 39)] else if k = 4 ∧ yww K s x = true then [(0, 0, 4)] else if k = 32 ∧ ea = [(0, -9, 40)] ∧ y104 K x = true then [(0, -9, 8)] else ea
theorem ycnt_ok {w : XW} {r : YR} {K : YF} (h3 : yknow ks w r K) {g : Nat} {x : YL} (hg : g < 100) (h : ycnt K g x = true) : ∃ (i c : Nat) (fs : List XV) (n : Int), ks[i]? = some 0 ∧ w[i]? = some (.inl (c, fs)) ∧ fs[g]? = some (.inl (n, n)) ∧ yev (yi r) x < n := by
  obtain ⟨q, hq, h⟩ := List.any_eq_true.mp h
  rw [Bool.and_eq_true, Bool.and_eq_true] at h
  obtain ⟨c1, c2, c3⟩ := h
  have c1 := of_decide_eq_true c1
  have c2 := of_decide_eq_true c2
  obtain ⟨y, b1, b2⟩ := h3.2.2.1 q hq
  rw [c1] at b1
  obtain ⟨i, c, fs, e1, e2, e3⟩ := ygf_lt hg b1
  split at c3
  · rename_i n hn
    rw [hn] at b2
    have c4 := yprv_ok h3 c3
    rw [ydf_ev] at c4
    rw [b2.1] at e3
    exact ⟨i, c, fs, _, yki_ok h3 c2 e1, e2, e3, by omega⟩
  · cases c3
theorem yein_nn {k : Int} {y : XV} (h : yein ks (1, k, 1) y) (hne : y ≠ .inr (.inr (0, 0))) : yein ks (1, k, 0) y := by
  rcases h with ⟨_, h⟩ | h
  · exact absurd h hne
  · exact Or.inr h
theorem yral_ok {w : XW} {r : YR} {K : YF} (h3 : yknow ks w r K) (h4 : yheap KD ks w) {i k s t : Nat} {x : YL} {es : List XV} {ea : List YE} {y : XV} (hv : r s = .inr (.inr (1, i))) (hk : ks[i]? = some k) (hw : w[i]? = some (.inr (t, es))) (h0 : 0 ≤ yev (yi r) x) (hy : es[(yev (yi r) x).toNat]? = some y) (hes : yany ks ea y) : yany ks (yral K k s x ea) y := by
  have hj : ((yev (yi r) x).toNat : Int) = yev (yi r) x := by omega
  unfold yral
  split
  · rename_i hc
    obtain ⟨rfl, rfl, hc⟩ := hc
    obtain ⟨i', c, fs, n, a1, a2, a3, a4⟩ := ycnt_ok h3 (by decide) hc
    obtain ⟨e, he, hx⟩ := hes
    rw [List.mem_singleton.mp he] at hx
    exact ⟨_, List.mem_cons_self, yein_nn hx (fun e0 => h4.2.2.2.2.2.1 i' i c fs n t es _ a1 hk a2 a3 hw (by rw [hj]; exact a4) (by rw [hy, e0]))⟩
  · split
    · rename_i hc
      obtain ⟨rfl, rfl, hc⟩ := hc
      obtain ⟨i', c, fs, n, a1, a2, a3, a4⟩ := ycnt_ok h3 (by decide) hc
      obtain ⟨e, he, hx⟩ := hes
      rw [List.mem_singleton.mp he] at hx
      exact ⟨_, List.mem_cons_self, yein_nn hx (fun e0 => h4.2.2.2.2.2.2.1 i' i c fs n t es _ a1 hk a2 a3 hw (by rw [hj]; exact a4) (by rw [hy, e0]))⟩
    · split
      · rename_i hc
        obtain ⟨rfl, rfl, hc⟩ := hc
        unfold yw2 at hc
        rw [Bool.and_eq_true] at hc
        obtain ⟨q, hq, c1⟩ := List.any_eq_true.mp hc.1
        obtain ⟨p, hp, c2⟩ := List.any_eq_true.mp hc.2
        rw [Bool.and_eq_true, Bool.and_eq_true] at c1 c2
        obtain ⟨d1, d2, d3⟩ := c1
        obtain ⟨f1, f2, f3⟩ := c2
        have d1 := of_decide_eq_true d1
        have d2 := of_decide_eq_true d2
        have f1 := of_decide_eq_true f1
        have f2 := of_decide_eq_true f2
        obtain ⟨u, b1, b2⟩ := h3.2.2.2.1 q hq
        obtain ⟨ia, ta, ea, _, ka, wa, _, ra⟩ := yki_ref h3 d1 b1
        rw [d2, yis_ok h3 b2 d3] at ra
        obtain ⟨u', b3, b4⟩ := h3.2.2.1 p hp
        rw [f1] at b3
        obtain ⟨im, c, fs, e1, e2, e3⟩ := ygf_lt (by decide) b3
        obtain ⟨e, he, hx⟩ := hes
        rw [List.mem_singleton.mp he] at hx
        obtain ⟨z, z1, z2, z3, z4, z5⟩ := hx
        split at f3
        · rename_i n hn
          rw [hn] at b4
          have c4 := yprv_ok h3 f3
          rw [ydf_ev] at c4
          rw [b4.1] at e3
          rw [z1] at hy
          have := h4.2.2.2.2.2.2.2.2 im ia i c fs _ ta ea t es _ z (yki_ok h3 f2 e1) ka hk e2 e3 wa hw (by rw [hj]; omega) ra hy
          exact ⟨_, List.mem_cons_self, z, z1, z2, this, z4, z5⟩
        · cases f3
      · split
        · rename_i hc
          obtain ⟨rfl, hc⟩ := hc
          obtain ⟨q, hq, hc⟩ := List.any_eq_true.mp hc
          rw [Bool.and_eq_true, Bool.and_eq_true] at hc
          obtain ⟨c1, c2, c3⟩ := hc
          obtain ⟨c4, c5⟩ := of_decide_eq_true c1
          obtain ⟨p, hp, c2⟩ := List.any_eq_true.mp c2
          obtain ⟨m, hm, c3⟩ := List.any_eq_true.mp c3
          rw [Bool.and_eq_true] at c2 c3
          obtain ⟨u, b1, b2⟩ := h3.2.2.1 q hq
          rw [c4] at b1
          rw [c5] at b2
          obtain ⟨iq, c, fs, e1, e2, e3⟩ := ygf_lt (by decide) b1
          have eu : u = .inr (.inr (1, i)) := b2.1.trans hv
          obtain ⟨u2, b3, b4⟩ := h3.2.2.1 p hp
          have ep : p.1 = (q.1.1, 100) := of_decide_eq_true c2.1
          rw [ep] at b3
          have b3 : ygf ks w (r q.1.1) 100 u2 := b3
          rw [e1] at b3
          have b3 : y01 (yways ks w iq) u2 := by
            rcases b3 with ⟨hh, _⟩ | ⟨_, hh⟩ | ⟨hh, _⟩ | ⟨hh, _⟩
            · omega
            · exact hh
            · omega
            · omega
          obtain ⟨u3, b5, b6⟩ := h3.2.2.1 m hm
          have em : m.1 = (q.1.1, 1) := of_decide_eq_true c3.1
          rw [em] at b5
          have b5 : ygf ks w (r q.1.1) 1 u3 := b5
          obtain ⟨c', fs', g1, g2⟩ := ygf_ref e1 (by decide) b5
          rw [e2] at g1
          cases g1
          have h1 : 1 ≤ yev (yi r) (match p.2 with
            | .inl v => v
            | _ => ycst 0) ∧ u2 = .inl (yev (yi r) (match p.2 with
            | .inl v => v
            | _ => ycst 0), yev (yi r) (match p.2 with
            | .inl v => v
            | _ => ycst 0)) := by
            have c2 := c2.2
            match hp2 : p.2, c2, b4 with
            | .inl v, c2, b4 =>
              have c6 := yprv_ok h3 (show yprv K (ydf v (ycst 1) 0) = true from c2)
              rw [ydf_ev, ycst_ev] at c6
              exact ⟨by dsimp only; omega, b4.1⟩
            | .inr (.inl _), c2, _ => cases c2
            | .inr (.inr _), c2, _ => cases c2
          obtain ⟨z, z1, z2, z3, z4⟩ := b3
          have hz : 1 ≤ z := by
            rw [h1.2] at z1
            have : yev (yi r) _ = z := congrArg (fun u => match u with
              | .inl q => q.1
              | _ => 0) z1
            rw [← this]
            exact h1.1
          obtain ⟨_, cw, fsw, pw, nw, tw, esw, k1, k2, k3, k4, k5, k6⟩ := z4.mp hz
          rw [e2] at k1
          cases k1
          rw [e3, eu] at k2
          cases k2
          rw [hw] at k5
          cases k5
          have c7 := c3.2
          split at c7
          · rename_i n hn
            rw [hn] at b6
            have c8 := yprv_ok h3 c7
            rw [ydf_ev] at c8
            rw [b6.1, k3] at g2
            have : nw = yev (yi r) n := congrArg (fun u => match u with
              | some (.inl q) => q.1
              | _ => 0) g2
            obtain ⟨z', z5, z6, z7⟩ := k6 (yev (yi r) x).toNat (by rw [hj]; omega)
            rw [hy] at z5
            exact ⟨_, List.mem_cons_self, z', Option.some.inj z5, z6, z7, by omega, by omega⟩
          · cases c7
        · split
          · rename_i hc
            obtain ⟨rfl, rfl, hc⟩ := hc
            obtain ⟨q, hq, hc⟩ := List.any_eq_true.mp hc
            rw [Bool.and_eq_true] at hc
            obtain ⟨c1, c2⟩ := of_decide_eq_true hc.1
            obtain ⟨u, b1, b2⟩ := h3.2.2.1 q hq
            rw [c1] at b1
            obtain ⟨z0, z1, z2⟩ := yge1_ok h3 b2 hc.2
            obtain ⟨e, he, hx⟩ := hes
            rw [List.mem_singleton.mp he] at hx
            obtain ⟨z, y1, y2, y3, y4, y5⟩ := hx
            obtain ⟨q', d1, z', d2, _, _, d3⟩ := ygf_104 b1
            rw [z1] at d2
            have ez : z0 = z' := congrArg (fun u => match u with
              | .inl q => q.1
              | _ => 0) d2
            have ex : yev (yi r) x = q'.1 := by
              rw [c2, ysym_ev]
              unfold yi
              rw [d1]
            rw [y1] at hy
            rw [ex] at hy h0
            exact ⟨_, List.mem_cons_self, z, y1, y2, d3.mp (by omega) i t es z hk hw h0 hy, y4, y5⟩
          · exact hes
/-- what is kept of a place of the row of rows: that its places are ways, if a set says so -/
def yrwk (K : YF) (k m : Nat) (x : YL) : Bool := decide (k = 1 ∧ m ≤ 6) && (yf_a K).any (fun p => decide (p.1.2 = x ∧ p.2 = .inl (ycst 1)) && ((match (yf_e K)[p.1.1]? with
  | some (0, _, _) => true
  | _ => false) && (yf_m K).any (fun q => decide (q.1 = (p.1.1, 102)) && yge1 K q.2)))
def ykeepr (b : Bool) (s : Nat) (i : YL) (v : YV) (K : YF) : YF := match b, v with
  | true, .inr (.inr (0, q)) => (yf_e K, yf_f K, ((q, 100), .inl (ycst 1)) :: yf_m K, ((s, i), v) :: yf_a K, yf_l K)
  | _, _ => ykeepa s i v K
theorem yrwk_ok {w : XW} {r : YR} {K : YF} (h3 : yknow ks w r K) {i k m t : Nat} {x : YL} {es : List XV} (hk : ks[i]? = some k) (hw : w[i]? = some (.inr (t, es))) (h0 : 0 ≤ yev (yi r) x) (h1 : yev (yi r) x < (m : Int)) (h : yrwk K k m x = true) : ∀ q, es[(yev (yi r) x).toNat]? = some (.inr (.inr (1, q))) → ks[q]? = some 3 → yways ks w q := fun q hq hq3 => by
  unfold yrwk at h
  rw [Bool.and_eq_true] at h
  obtain ⟨rfl, hm⟩ := of_decide_eq_true h.1
  obtain ⟨p, hp, h⟩ := List.any_eq_true.mp h.2
  rw [Bool.and_eq_true, Bool.and_eq_true] at h
  obtain ⟨c1, c2, c3⟩ := h
  obtain ⟨c1, c4⟩ := of_decide_eq_true c1
  obtain ⟨a, ha, c3⟩ := List.any_eq_true.mp c3
  rw [Bool.and_eq_true] at c3
  have c5 : a.1 = (p.1.1, 102) := of_decide_eq_true c3.1
  obtain ⟨u, b1, b2⟩ := h3.2.2.2.1 p hp
  obtain ⟨u', b3, b4⟩ := h3.2.2.1 a ha
  rw [c1] at b1
  rw [c5] at b3
  rw [c4] at b2
  obtain ⟨z, z1, z2⟩ := yge1_ok h3 b4 c3.2
  split at c2
  · rename_i he
    obtain ⟨v, v1, _⟩ := h3.1 p.1.1 _ he
    have b3 : ygf ks w (r p.1.1) 102 u' := b3
    rw [v1] at b1 b3
    have b1 : u = .inl (ybit v (yev (yi r) x), ybit v (yev (yi r) x)) := b1
    obtain ⟨_, z', z3, _, _, z6⟩ := b3.resolve_right (fun hh => absurd hh.1 (by decide))
    rw [z1] at z3
    have ez : z = z' := congrArg (fun u => match u with
      | .inl q => q.1
      | _ => 0) z3
    have hb : ybit v (yev (yi r) x) = 1 := by
      have e := b2.1
      rw [b1, ycst_ev] at e
      exact congrArg (fun u => match u with
        | .inl q => q.1
        | _ => 0) e
    have e0 : ((yev (yi r) x).toNat : Int) = yev (yi r) x := by omega
    exact z6.mp (by omega) i t es hk hw (yev (yi r) x).toNat (by omega) (by rw [e0]; exact hb) q hq hq3
  · cases c2
/-- a place of an array: an index that fits, what may stand there -/
def yh_ald (KD : Nat → Option YK) (exc : List (List XV)) (ty kd : Nat) (Y : YS) : Option (List YO) := match Y.2.2.1 with
  | .inl x :: .inr (.inr (0, s)) :: t => (match (yf_e Y.2.2.2)[s]? with
    | some (1, k, n) => (match KD k.toNat with
      | some (.inr (t', m, ea)) => if (ty = t' ∨ (ty = 3 ∧ 3 ≤ t')) ∧ n ≠ 1 ∧ ylin (yf_e Y.2.2.2).length x = true ∧ (yprv Y.2.2.2 x && (yprv Y.2.2.2 (ydf (ycst (m : Int)) x 1) && ea.all (fun e => decide (ykd (ysv e 0) = kd)))) = true then (match (yf_a Y.2.2.2).find? (fun q => decide (q.1 = (s, x)) && decide (ykd q.2 = kd)) with
        | some q => some [.inl (Y.1 + 1, Y.2.1, q.2 :: t, Y.2.2.2)]
        | none => yalts (Y.1, Y.2.1, t, Y.2.2.2) (Y.1 + 1) (ykeepr (decide (ea = [(1, 3, 0)]) && yrwk Y.2.2.2 k.toNat m x) s x) (yral Y.2.2.2 k.toNat s x ea)) else none
      | _ => none)
    | _ => none)
  | .inl x :: .inr (.inr (m + 3, j)) :: t => (match exc[j]? with
    | some es => if ty = 0 ∧ kd = 0 ∧ m = 0 ∧ (yprv Y.2.2.2 x && (yprv Y.2.2.2 (ydf (ycst (es.length : Int)) x 1) && es.all (fun v => match v with
      | .inl q => decide (q.1 = q.2 ∧ -9 ≤ q.1 ∧ q.1 ≤ 99)
      | _ => false))) = true then yalts (Y.1, Y.2.1, t, Y.2.2.2) (Y.1 + 1) (fun _ K => K) ((es.map (fun v => match v with
      | .inl q => (0, q.1, q.1)
      | _ => (0, 0, 0)))) else none
    | none => none)
  | _ => none
theorem ysv_kd {e : YE} {n : Nat} : ykd (ysv e n) = ykd (ysv e 0) := by
  unfold ysv
  by_cases h0 : e.1 = 0
  · rw [if_pos h0, if_pos h0]
    by_cases hc : e.2.1 = e.2.2
    · rw [if_pos hc, if_pos hc]
    · rw [if_neg hc, if_neg hc]
      rfl
  · rw [if_neg h0, if_neg h0]
    by_cases h2 : e.1 = 2
    · rw [if_pos h2, if_pos h2]
      by_cases hc : e.2.1 = 2
      · rw [if_pos hc, if_pos hc]
      · rw [if_neg hc, if_neg hc]
        rfl
    · rw [if_neg h2, if_neg h2]
      rfl
theorem yein_kd {e : YE} {x : XV} (h : yein ks e x) : xkd x = ykd (ysv e 0) := by
  have h1 : yvin (fun _ => x) (ysv e 0) x := ysv_in (r := fun _ => x) (n := 0) rfl h
  exact (ykd_ok h1).1
theorem yo_ald {exs exc : List (List XV)} {ty kd : Nat} (hex : ∀ (j : Nat) (es : List XV), exs[j]? = some es → exc[j]? = some es) (h : yh_ald KD exs ty kd Y = some outs) (hg : ∀ o ∈ outs, ygoodO f J Post KD ks ow n0 r0 o) : yone f J Post KD ks ow n0 r0 Y (fun lv st w => xh_ald ty kd exc Y.1 lv st w 0 0) := by
  unfold yh_ald at h
  split at h
  · rename_i x s t hs
    split at h
    · rename_i k n he
      split at h
      · rename_i t' m ea hd
        split at h
        · rename_i hc
          obtain ⟨ht, hn, hx, hp⟩ := hc
          rw [Bool.and_eq_true, Bool.and_eq_true] at hp
          obtain ⟨p1, p2, p3⟩ := hp
          intro h0 r w lv st hr h1 h2 h3 h4
          rw [hs] at h2
          obtain ⟨x1, st1, e1, a1, x2, st2, e2, ⟨a2, _⟩, a3⟩ := h2
          subst e1
          subst e2
          obtain ⟨rfl, _⟩ := a1
          obtain ⟨i, hv, hk⟩ := (h3.1 s _ he).resolve_left (fun hh => hn hh.1)
          have e3 : x2 = .inr (.inr (1, i)) := a2.trans hv
          subst e3
          obtain ⟨es, w1, w2, w3⟩ := yheap_a h4.1 hk hd
          have q1 := yprv_ok h3 p1
          have q2 := yprv_ok h3 p2
          rw [ydf_ev, ycst_ev] at q2
          obtain ⟨y, y1, y2⟩ := xread_ex (es := es) q1 (by omega)
          have run : xkd y = kd → xh_ald ty kd exc Y.1 lv (.inl (yev (yi r) x, yev (yi r) x) :: .inr (.inr (1, i)) :: st2) w 0 0 = some (.inl (Y.1 + 1, lv, y :: st2, w, 0, 0)) := fun hky => by
            unfold xh_ald xarr
            dsimp only
            rw [if_pos rfl, w1]
            dsimp only
            rw [if_pos ht, y2]
            dsimp only
            rw [if_pos hky]
          split at h
          · rename_i q hq
            cases h
            have q5 := List.find?_some hq
            rw [Bool.and_eq_true] at q5
            have q3 : q.1 = (s, x) := of_decide_eq_true q5.1
            have q4 : ykd q.2 = kd := of_decide_eq_true q5.2
            obtain ⟨y', b1, b5⟩ := h3.2.2.2.1 q (List.mem_of_find?_eq_some hq)
            rw [q3] at b1
            obtain ⟨b3, t2, es', b2, b4⟩ := yga_ref b1 hv
            rw [w1] at b2
            cases b2
            have b4 : es[(yev (yi r) x).toNat]? = some y' := b4
            rw [y1] at b4
            cases b4
            exact ⟨_, run (by rw [(ykd_ok b5).1]; exact q4), yuse (hg _ List.mem_cons_self) h0 hr rfl h1 ⟨y, _, rfl, b5, a3⟩ h3 h4⟩
          · obtain ⟨e, e1, e2⟩ := w3 _ y y1
            have hky : xkd y = kd := by
              rw [yein_kd e2]
              exact of_decide_eq_true (List.all_eq_true.mp p3 e e1)
            have hls : s < (yf_e Y.2.2.2).length := (List.getElem?_eq_some_iff.mp he).1
            refine ⟨_, run hky, yalts_ok (Y := (Y.1, Y.2.1, t, Y.2.2.2)) (fun r' v K c1 c5 c6 => ?_) h0 hr h1 a3 h3 h4 h hg (yral_ok h3 h4.1 hv hk w1 q1 y1 ⟨e, e1, e2⟩)⟩
            have ex : yev (yi r') x = yev (yi r) x := yev_ext c1 hx
            have nw : yga w (r' s) (yev (yi r') x) y := by
              rw [(c1 s hls).trans hv, ex]
              exact ⟨q1, t', es, w1, y1⟩
            have base : yknow ks w r' (ykeepa s x v K) := ⟨c5.1, c5.2.1, c5.2.2.1, fun q hq => by
              rcases List.mem_cons.mp hq with hq | hq
              · subst hq
                exact ⟨y, nw, c6⟩
              · exact c5.2.2.2.1 q hq, c5.2.2.2.2⟩
            unfold ykeepr
            split
            · rename_i q hb
              rw [Bool.and_eq_true] at hb
              have hea := of_decide_eq_true hb.1
              refine ⟨⟨base.1, base.2.1, fun p hp => ?_, base.2.2.2⟩, rfl⟩
              rcases List.mem_cons.mp hp with hp | hp
              · subst hp
                rw [hea] at e1
                rw [List.mem_singleton.mp e1] at e2
                obtain ⟨iq, i1, i2⟩ := e2.resolve_left (fun hh => absurd hh.1 (by decide))
                have hw3 := yrwk_ok (t := t') h3 hk w1 q1 (by omega) hb.2 iq (by rw [y1, i1]) i2
                refine ⟨.inl (1, 1), ?_, ?_⟩
                · show ygf ks w (r' q) 100 _
                  rw [← c6.1, i1]
                  exact Or.inr (Or.inl ⟨rfl, 1, rfl, by decide, by decide, fun _ => hw3, fun _ => by decide⟩)
                · show (.inl (1, 1) : XV) = .inl (yev (yi r') (ycst 1), yev (yi r') (ycst 1)) ∧ _ ∧ _
                  rw [ycst_ev]
                  exact ⟨rfl, by decide, by decide⟩
              · exact base.2.2.1 p hp
            · exact ⟨base, rfl⟩
        · cases h
      · cases h
    · cases h
  · rename_i x m j t hs
    split at h
    · rename_i es hes
      split at h
      · rename_i hc
        obtain ⟨rfl, rfl, rfl, hp⟩ := hc
        rw [Bool.and_eq_true, Bool.and_eq_true] at hp
        obtain ⟨p1, p2, p3⟩ := hp
        intro h0 r w lv st hr h1 h2 h3 h4
        rw [hs] at h2
        obtain ⟨x1, st1, e1, a1, x2, st2, e2, a2, a3⟩ := h2
        subst e1
        subst e2
        obtain ⟨rfl, _⟩ := a1
        have e3 : x2 = .inr (.inr (2, j)) := a2
        subst e3
        have q1 := yprv_ok h3 p1
        have q2 := yprv_ok h3 p2
        rw [ydf_ev, ycst_ev] at q2
        obtain ⟨y, y1, y2⟩ := xread_ex (es := es) q1 (by omega)
        have p4 := List.all_eq_true.mp p3 y (List.mem_of_getElem? y1)
        match y, y1, y2, p4 with
        | .inl q, y1, y2, p4 =>
          obtain ⟨b1, b2, b3⟩ := of_decide_eq_true p4
          obtain ⟨z1, z2⟩ := q
          dsimp only at b1 b2 b3
          subst b1
          refine ⟨.inl (Y.1 + 1, lv, .inl (z1, z1) :: st2, w, 0, 0), ?_, yalts_ok (Y := (Y.1, Y.2.1, t, Y.2.2.2)) (fun r' v K c1 c5 c6 => ⟨c5, rfl⟩) h0 hr h1 a3 h3 h4 h hg ⟨(0, z1, z1), List.mem_map.mpr ⟨_, List.mem_of_getElem? y1, rfl⟩, z1, rfl, Int.le_refl _, Int.le_refl _, by omega, by omega⟩⟩
          show xh_ald 0 0 exc Y.1 lv (.inl (yev (yi r) x, yev (yi r) x) :: .inr (.inr (2, j)) :: st2) w 0 0 = _
          unfold xh_ald xarr
          dsimp only
          rw [if_neg (by decide), if_pos rfl, hex _ _ hes]
          dsimp only
          rw [if_pos (Or.inl rfl), y2]
          rfl
      · cases h
    · cases h
  · cases h
/-- a word that isn't counted yet -/
def ycn (K : YF) (k : Nat) (x : YL) : Bool := decide (k = 58 ∨ k = 61) && (yf_m K).any (fun q => decide (q.1.2 = 36) && (decide (yki K q.1.1 = some 30) && (match q.2 with
  | .inl n => yprv K (ydf x n 0)
  | _ => false)))
theorem ycn_ok {w : XW} {r : YR} {K : YF} (h3 : yknow ks w r K) (h4 : ysp ks w) {k : Nat} {x : YL} (h : ycn K k x = true) (h0 : 0 ≤ yev (yi r) x) : (k = 58 ∨ k = 61) ∧ ∀ (i c : Nat) (fs : List XV) (n : Int), ks[i]? = some 30 → w[i]? = some (.inl (c, fs)) → fs[36]? = some (.inl (n, n)) → n ≤ ((yev (yi r) x).toNat : Int) := by
  unfold ycn at h
  rw [Bool.and_eq_true] at h
  refine ⟨of_decide_eq_true h.1, fun i c fs n k1 k2 k3 => ?_⟩
  obtain ⟨q, hq, h⟩ := List.any_eq_true.mp h.2
  rw [Bool.and_eq_true, Bool.and_eq_true] at h
  obtain ⟨c1, c2, c3⟩ := h
  have c1 := of_decide_eq_true c1
  have c2 := of_decide_eq_true c2
  obtain ⟨y, b1, b2⟩ := h3.2.2.1 q hq
  rw [c1] at b1
  obtain ⟨i', c', fs', e1, e2, e3⟩ := ygf_lt (by decide) b1
  have ei := h4.2.2.2.1 i i' k1 (yki_ok h3 c2 e1)
  subst ei
  rw [k2] at e2
  cases e2
  split at c3
  · rename_i m hm
    rw [hm] at b2
    have c4 := yprv_ok h3 c3
    rw [ydf_ev] at c4
    rw [k3, b2.1] at e3
    have : n = yev (yi r) m := congrArg (fun u => match u with
      | some (.inl q) => q.1
      | _ => 0) e3
    omega
  · cases c3
theorem yfr_sym {Y : YS} {e : YE} {v : YV} {K : YF} {r : YR} {lv : XL} {st : List XV} {w : XW} {x : XV} (hn : yfr Y e = some (v, K)) (h1 : ylvin r Y.2.1 lv) (h2 : ystin r Y.2.2.1 st) (h3 : yknow ks w r Y.2.2.2) (he : yein ks e x) : ∃ r', yext (yf_e Y.2.2.2).length r r' ∧ (yf_e Y.2.2.2).length ≤ (yf_e K).length ∧ ylvin r' Y.2.1 lv ∧ ystin r' Y.2.2.1 st ∧ yknow ks w r' K ∧ yvin r' v x ∧ r' (yf_e Y.2.2.2).length = x := by
  unfold yfr at hn
  by_cases hw : ywf Y = true
  · rw [if_pos hw] at hn
    cases hn
    unfold ywf at hw
    rw [Bool.and_eq_true, Bool.and_eq_true] at hw
    obtain ⟨w1, w2, w3⟩ := hw
    have hx := yupd_ext (r := r) (n := (yf_e Y.2.2.2).length) (x := x)
    exact ⟨_, hx, by show (yf_e Y.2.2.2).length ≤ (yf_e Y.2.2.2 ++ [e]).length; rw [List.length_append]; omega, ylvin_ext hx w1 h1, ystin_ext hx w2 h2, yknow_new h3 w3 he, ysv_in yupd_at he, yupd_at⟩
  · rw [if_neg hw] at hn
    cases hn
/-- the times' sum, behind a change of one -/
def yk106 (KD : Nat → Option YK) : Bool := match KD 42 with
  | some (.inr (_, m, ea)) => decide (m = 64 ∧ ea = [(0, 0, 100000)])
  | _ => false
def yts (KD : Nat → Option YK) (K0 : YF) (s : Nat) (x : YL) (v : YV) (Y : YS) : Option YS := match (yf_m K0).find? (fun p => decide (p.1.2 = 106)) with
  | some (p, .inl S) => if (yk106 KD && (ylin (yf_e Y.2.2.2).length S && decide (p.1 < (yf_e Y.2.2.2).length))) = true then (match yfr Y (0, 0, 6400000) with
    | some (_, K2) => some (Y.1, Y.2.1, Y.2.2.1, yf_e K2, (match (yf_a K0).find? (fun q => decide (q.1 = (s, x))), v with
      | some (_, .inl o), .inl y => if (ylin (yf_e Y.2.2.2).length o && ylin (yf_e Y.2.2.2).length y) = true then [yadd (yadd (yadd (ysym (yf_e Y.2.2.2).length) (-1) S) 1 o) (-1) y, yadd (yadd (yadd S (-1) o) 1 y) (-1) (ysym (yf_e Y.2.2.2).length)] else []
      | _, _ => []) ++ yf_f K2, ((p.1, 106), .inl (ysym (yf_e Y.2.2.2).length)) :: yf_m K2, yf_a K2, yf_l K2)
    | none => none) else none
  | _ => some Y
/-- into a place of an array -/
def yh_ast (KD : Nat → Option YK) (pu ty kd : Nat) (Y : YS) : Option (List YO) := match Y.2.2.1 with
  | v :: .inl x :: .inr (.inr (0, s)) :: t => (match (yf_e Y.2.2.2)[s]? with
    | some (1, k, n) => (match KD k.toNat with
      | some (.inr (t', m, ea)) => if ty = t' ∧ ykd v = kd ∧ n ≠ 1 ∧ (yprv Y.2.2.2 x && (yprv Y.2.2.2 (ydf (ycst (m : Int)) x 1) && (yfits Y.2.2.2 ea v && (ypm pu k.toNat && (ypa k.toNat || ycn Y.2.2.2 k.toNat x))))) = true then (if k.toNat = 42 then (match yts KD Y.2.2.2 s x v (Y.1 + 1, Y.2.1, t, ycha s k x v Y.2.2.2) with
        | some Y' => some [.inl Y']
        | none => none) else some [.inl (Y.1 + 1, Y.2.1, t, ycha s k x v Y.2.2.2)]) else none
      | _ => none)
    | _ => none)
  | _ => none
theorem yts_ok {w w' : XW} {r : YR} {K0 : YF} {s i t z : Nat} {x : YL} {v : YV} {Y Y' : YS} {es : List XV} {x0 : XV} {lv : XL} {st : List XV} (hn : yts KD K0 s x v Y = some Y') (h30 : yknow ks w r K0) (h4 : yheap KD ks w) (h4' : yheap KD ks w') (hs : r s = .inr (.inr (1, i))) (hk : ks[i]? = some 42) (hw : w[i]? = some (.inr (t, es))) (hw' : w'[i]? = some (.inr (t, es.set z x0))) (hz : z = (yev (yi r) x).toNat) (hzl : z < es.length) (hv : yvin r v x0) (h1 : ylvin r Y.2.1 lv) (h2 : ystin r Y.2.2.1 st) (h3 : yknow ks w' r Y.2.2.2) : ∃ r', yext (yf_e Y.2.2.2).length r r' ∧ (yf_e Y.2.2.2).length ≤ (yf_e Y'.2.2.2).length ∧ Y'.1 = Y.1 ∧ ylvin r' Y'.2.1 lv ∧ ystin r' Y'.2.2.1 st ∧ yknow ks w' r' Y'.2.2.2 := by
  unfold yts at hn
  split at hn
  · rename_i p S hp
    split at hn
    · rename_i hc
      rw [Bool.and_eq_true, Bool.and_eq_true] at hc
      obtain ⟨c1, c2, c3⟩ := hc
      have c3 := of_decide_eq_true c3
      have p1 := List.find?_some hp
      have p1 : p.2 = 106 := of_decide_eq_true p1
      obtain ⟨u, u1, u2⟩ := h30.2.2.1 _ (List.mem_of_find?_eq_some hp)
      dsimp only at u1 u2
      rw [p1] at u1
      obtain ⟨⟨im, hm⟩, pp, tt, ees, f1, f2, f3⟩ := ygf_106 u1
      have e1 := h4.2.1 42 (Or.inr (Or.inr rfl)) pp i f1 hk
      subst e1
      rw [hw] at f2
      cases f2
      obtain ⟨o, ho⟩ : ∃ o, es[z]? = some o := ⟨_, List.getElem?_eq_getElem hzl⟩
      have hsum := ysumv_set (v := x0) ho
      -- bounds
      have hbd : 0 ≤ ysumv (es.set z x0) ∧ ysumv (es.set z x0) ≤ 6400000 := by
        unfold yk106 at c1
        split at c1
        · rename_i t1 m1 ea1 hd
          obtain ⟨rfl, rfl⟩ := of_decide_eq_true c1
          obtain ⟨es', g1, g2, g3⟩ := yheap_a h4' hk hd
          rw [hw'] at g1
          have g1 : es.set z x0 = es' := by
            injection g1 with g1
            injection g1 with g1
            injection g1
          have := ysumv_bd (l := es') (fun y hy => by
            obtain ⟨j, hj⟩ := List.getElem?_of_mem hy
            obtain ⟨e, he, hx⟩ := g3 j y hj
            rw [List.mem_singleton.mp he] at hx
            obtain ⟨q, q1, q2, q3, _⟩ := hx
            rw [q1]
            exact ⟨q2, q3⟩)
          rw [g1]
          rw [g2] at this
          exact ⟨this.1, by have := this.2; omega⟩
        · cases c1
      split at hn
      · rename_i _ K2 hfr
        cases hn
        obtain ⟨r', d1, d2, d3, d4, d5, d6, d7⟩ := yfr_sym (x := .inl (ysumv (es.set z x0), ysumv (es.set z x0))) hfr h1 h2 h3 ⟨_, rfl, hbd.1, hbd.2, by omega, by omega⟩
        have eS : yev (yi r') S = ysumv es := by
          rw [yev_ext d1 c2]
          have := u2.1
          rw [f3] at this
          exact (congrArg (fun u => match u with
            | .inl q => q.1
            | _ => 0) this).symm
        have e2 : yi r' (yf_e Y.2.2.2).length = ysumv (es.set z x0) := by
          unfold yi
          rw [d7]
        refine ⟨r', d1, d2, rfl, d3, d4, d5.1, fun g hg => ?_, fun q hq => ?_, d5.2.2.2⟩
        · have hg' := List.mem_append.mp hg
          clear hg
          rcases hg' with hg | hg
          · split at hg
            · rename_i pq o' y hfo
              split at hg
              · rename_i hl
                rw [Bool.and_eq_true] at hl
                have q1 := List.find?_some hfo
                have q1 : pq = (s, x) := of_decide_eq_true q1
                obtain ⟨b, b1, b2⟩ := h30.2.2.2.1 _ (List.mem_of_find?_eq_some hfo)
                dsimp only at b1 b2
                rw [q1] at b1
                obtain ⟨_, t3, es3, b3, b4⟩ := yga_ref b1 hs
                rw [hw] at b3
                cases b3
                have b4 : es[(yev (yi r) x).toNat]? = some b := b4
                rw [← hz, ho] at b4
                cases b4
                have eo : yev (yi r') o' = yn0 o := by
                  rw [yev_ext d1 hl.1, b2.1]
                  rfl
                have ey : yev (yi r') y = yn0 x0 := by
                  rw [yev_ext d1 hl.2, hv.1]
                  rfl
                rcases List.mem_cons.mp hg with hg | hg
                · rw [hg, yadd_ev, yadd_ev, yadd_ev, ysym_ev, e2, eS, eo, ey]
                  omega
                · rw [List.mem_singleton.mp hg, yadd_ev, yadd_ev, yadd_ev, ysym_ev, e2, eS, eo, ey]
                  omega
              · cases hg
            · cases hg
          · exact d5.2.1 g hg
        · rcases List.mem_cons.mp hq with hq | hq
          · subst hq
            refine ⟨.inl (ysumv (es.set z x0), ysumv (es.set z x0)), ?_, ?_⟩
            · show ygf ks w' (r' p.1) 106 _
              rw [d1 p.1 c3, hm]
              exact Or.inr (Or.inr (Or.inr ⟨rfl, pp, _, _, hk, hw', rfl⟩))
            · show (.inl (ysumv (es.set z x0), ysumv (es.set z x0)) : XV) = .inl (yev (yi r') (ysym (yf_e Y.2.2.2).length), yev (yi r') (ysym (yf_e Y.2.2.2).length)) ∧ _ ∧ _
              rw [ysym_ev, e2]
              exact ⟨rfl, by omega, by omega⟩
          · exact d5.2.2.1 q hq
      · cases hn
    · cases hn
  · cases hn
    exact ⟨r, fun _ _ => rfl, Nat.le_refl _, rfl, h1, h2, h3⟩
theorem xwrite_ex {es : List XV} {z : Int} {x : XV} (h0 : 0 ≤ z) (h1 : z.toNat < es.length) : xwrite es (z, z) x = some (es.set z.toNat x) := by
  unfold xwrite
  rw [if_pos ⟨h0, by show z < (es.length : Int); omega⟩, if_pos rfl]
theorem yo_ast {pu ty kd : Nat} (ho : ymd pu ks ow) (h : yh_ast KD pu ty kd Y = some outs) (hg : ∀ o ∈ outs, ygoodO f J Post KD ks ow n0 r0 o) : yone f J Post KD ks ow n0 r0 Y (fun lv st w => xh_ast ty kd Y.1 lv st w 0 0) := by
  unfold yh_ast at h
  split at h
  · rename_i v x s t hs
    split at h
    · rename_i k n he
      split at h
      · rename_i t' m ea hd
        split at h
        · rename_i hc
          obtain ⟨rfl, hkv, hn, hp⟩ := hc
          rw [Bool.and_eq_true, Bool.and_eq_true, Bool.and_eq_true, Bool.and_eq_true, Bool.or_eq_true] at hp
          obtain ⟨p1, p2, p3, p4, p5⟩ := hp
          intro h0 r w lv st hr h1 h2 h3 h4
          rw [hs] at h2
          obtain ⟨x0, st0, e0, a0, x1, st1, e1, a1, x2, st2, e2, ⟨a2, _⟩, a3⟩ := h2
          subst e0
          subst e1
          subst e2
          obtain ⟨rfl, _⟩ := a1
          obtain ⟨i, hv, hk⟩ := (h3.1 s _ he).resolve_left (fun hh => hn hh.1)
          have e3 : x2 = .inr (.inr (1, i)) := a2.trans hv
          subst e3
          obtain ⟨es, w1, w2, w3⟩ := yheap_a h4.1 hk hd
          have q1 := yprv_ok h3 p1
          have q2 := yprv_ok h3 p2
          rw [ydf_ev, ycst_ev] at q2
          have hl : (yev (yi r) x).toNat < es.length := by omega
          have hsp : ysp ks (w.set i (.inr (ty, es.set (yev (yi r) x).toNat x0))) := by
            rcases p5 with p5 | p5
            · exact ysp_seta h4.1.2 hk w1 p5
            · obtain ⟨n1, n2⟩ := ycn_ok h3 h4.1.2 p5 q1
              exact ysp_word h4.1.2 hk w1 n1 n2
          have run : xh_ast ty kd Y.1 lv (x0 :: .inl (yev (yi r) x, yev (yi r) x) :: .inr (.inr (1, i)) :: st2) w 0 0 = some (.inl (Y.1 + 1, lv, st2, w.set i (.inr (ty, es.set (yev (yi r) x).toNat x0)), 0, 0)) := by
            unfold xh_ast
            dsimp only
            rw [if_pos ⟨rfl, by rw [(ykd_ok a0).1]; exact hkv⟩, w1]
            dsimp only
            rw [if_pos rfl, xwrite_ex q1 hl]
          have hheap : yheap KD ks (w.set i (.inr (ty, es.set (yev (yi r) x).toNat x0))) := ⟨yheap0_seta h4.1 hk hd w1 (yfits_ok h3 a0 p3), hsp⟩
          have hkn := ycha_ok h3 hv hk w1 q1 hl a0
          split at h
          · rename_i h42
            split at h
            · rename_i Y' hY'
              cases h
              rw [h42] at hk
              have hi : i < w.length := (List.getElem?_eq_some_iff.mp w1).1
              obtain ⟨r', d1, d2, d3, d4, d5, d6⟩ := yts_ok (st := st2) hY' h3 h4.1 hheap hv hk w1 (List.getElem?_set_self hi) rfl hl a0 h1 a3 hkn
              refine ⟨_, run, yuse (hg _ List.mem_cons_self) (Nat.le_trans h0 d2) (yext_trans hr d1 h0) d3.symm d4 d5 d6 ⟨hheap, ymd_set ho p4 (by rw [h42]; exact hk) h4.2⟩⟩
            · cases h
          · cases h
            exact ⟨_, run, yuse (hg _ List.mem_cons_self) h0 hr rfl h1 a3 hkn ⟨hheap, ymd_set ho p4 hk h4.2⟩⟩
        · cases h
      · cases h
    · cases h
  · cases h
end YI
