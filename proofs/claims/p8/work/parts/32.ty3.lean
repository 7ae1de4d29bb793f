/-! ===== states of the typed layer, what they stand for ===== -/
abbrev YS : Type := Nat × List (Nat × YV) × List YV × YF
/-- a state, or a method's answer with what is known there -/
abbrev YO : Type := YS ⊕ (Option YV × YF)
def ylvin (r : YR) : List (Nat × YV) → XL → Prop
  | [], l => l = []
  | q :: ys, l => ∃ v l', l = (q.1, v) :: l' ∧ yvin r q.2 v ∧ ylvin r ys l'
def ystin (r : YR) : List YV → List XV → Prop
  | [], l => l = []
  | q :: ys, l => ∃ v l', l = v :: l' ∧ yvin r q v ∧ ystin r ys l'
def ywfl (n : Nat) (lv : List (Nat × YV)) : Bool := lv.all (fun q => yvok n q.2)
def ywfs (n : Nat) (st : List YV) : Bool := st.all (yvok n)
def ywfk (n : Nat) (K : YF) : Bool := (yf_f K).all (ylin n) && ((yf_m K).all (fun q => decide (q.1.1 < n) && yvok n q.2) && ((yf_a K).all (fun q => decide (q.1.1 < n) && (ylin n q.1.2 && yvok n q.2)) && (yf_l K).all (fun q => decide (q.1 < n) && (ylin n q.2.1 && ylin n q.2.2))))
def ywf (Y : YS) : Bool := ywfl (yf_e Y.2.2.2).length Y.2.1 && (ywfs (yf_e Y.2.2.2).length Y.2.2.1 && ywfk (yf_e Y.2.2.2).length Y.2.2.2)
def ysat (KD : Nat → Option YK) (ks : List Nat) (ow : XW → Prop) (w : XW) (r : YR) (Y : YS) (S : XS) : Prop := ∃ lv st, S = (Y.1, lv, st, w, 0, 0) ∧ ylvin r Y.2.1 lv ∧ ystin r Y.2.2.1 st ∧ yknow ks w r Y.2.2.2 ∧ yhp KD ks ow w
theorem ylvin_ext {n : Nat} {r r' : YR} (h : yext n r r') : ∀ {ys : List (Nat × YV)} {l : XL}, ywfl n ys = true → ylvin r ys l → ylvin r' ys l
  | [], _, _, hv => hv
  | q :: ys, _, hw, ⟨v, l', e, h1, h2⟩ => by
    have hw : (yvok n q.2 && ywfl n ys) = true := hw
    rw [Bool.and_eq_true] at hw
    exact ⟨v, l', e, yvin_ext h hw.1 h1, ylvin_ext h hw.2 h2⟩
theorem ystin_ext {n : Nat} {r r' : YR} (h : yext n r r') : ∀ {ys : List YV} {l : List XV}, ywfs n ys = true → ystin r ys l → ystin r' ys l
  | [], _, _, hv => hv
  | q :: ys, _, hw, ⟨v, l', e, h1, h2⟩ => by
    have hw : (yvok n q && ywfs n ys) = true := hw
    rw [Bool.and_eq_true] at hw
    exact ⟨v, l', e, yvin_ext h hw.1 h1, ystin_ext h hw.2 h2⟩
def yupd (r : YR) (n : Nat) (x : XV) : YR := fun s => if s = n then x else r s
theorem yupd_ext {r : YR} {n : Nat} {x : XV} : yext n r (yupd r n x) := fun s hs => by
  unfold yupd
  rw [if_neg (by omega)]
theorem yupd_at {r : YR} {n : Nat} {x : XV} : yupd r n x n = x := by
  unfold yupd
  rw [if_pos rfl]
/-- what is known, with one symbol more -/
theorem yknow_new {ks : List Nat} {w : XW} {r : YR} {K : YF} {e : YE} {x : XV} (h : yknow ks w r K) (hw : ywfk (yf_e K).length K = true) (he : yein ks e x) : yknow ks w (yupd r (yf_e K).length x) (yf_e K ++ [e], K.2) := by
  unfold ywfk at hw
  rw [Bool.and_eq_true, Bool.and_eq_true, Bool.and_eq_true] at hw
  obtain ⟨w1, w2, w3, w4⟩ := hw
  obtain ⟨h1, h2, h3, h4, h5⟩ := h
  have hx := yupd_ext (r := r) (n := (yf_e K).length) (x := x)
  refine ⟨fun s e' hs => ?_, fun f hf => ?_, fun q hq => ?_, fun q hq => ?_, fun q hq => ?_⟩
  · by_cases hl : s < (yf_e K).length
    · have hs : (yf_e K ++ [e])[s]? = some e' := hs
      rw [List.getElem?_append_left hl] at hs
      rw [hx s hl]
      exact h1 s e' hs
    · have hs : (yf_e K ++ [e])[s]? = some e' := hs
      rw [List.getElem?_append_right (by omega)] at hs
      by_cases h0 : s - (yf_e K).length = 0
      · rw [h0] at hs
        cases hs
        have : s = (yf_e K).length := by omega
        subst this
        rw [yupd_at]
        exact he
      · rw [List.getElem?_eq_none (by simp; omega)] at hs
        cases hs
  · rw [yev_ext hx (List.all_eq_true.mp w1 f hf)]
    exact h2 f hf
  · have hq2 := List.all_eq_true.mp w2 q hq
    rw [Bool.and_eq_true] at hq2
    obtain ⟨y, a1, a2⟩ := h3 q hq
    exact ⟨y, by rw [hx q.1.1 (of_decide_eq_true hq2.1)]; exact a1, yvin_ext hx hq2.2 a2⟩
  · have hq2 := List.all_eq_true.mp w3 q hq
    rw [Bool.and_eq_true, Bool.and_eq_true] at hq2
    obtain ⟨y, a1, a2⟩ := h4 q hq
    rw [yev_ext hx hq2.2.1]
    exact ⟨y, by rw [hx q.1.1 (of_decide_eq_true hq2.1)]; exact a1, yvin_ext hx hq2.2.2 a2⟩
  · have hq2 := List.all_eq_true.mp w4 q hq
    rw [Bool.and_eq_true, Bool.and_eq_true] at hq2
    have h6 := h5 q hq
    rw [yev_ext hx hq2.2.1, yev_ext hx hq2.2.2, ← h6]
    unfold yi
    rw [hx q.1 (of_decide_eq_true hq2.1)]
/-- a symbol's value -/
def ysv (e : YE) (n : Nat) : YV := if e.1 = 0 then (if e.2.1 = e.2.2 then .inl (ycst e.2.1) else .inl (ysym n)) else if e.1 = 2 then (if e.2.1 = 2 then .inr (.inl (ycst e.2.2)) else .inr (.inl (ysym n))) else .inr (.inr (0, n))
theorem ysv_in {ks : List Nat} {r : YR} {n : Nat} {x : XV} (hr : r n = x) : ∀ {e : YE}, yein ks e x → yvin r (ysv e n) x
  | (0, lo, hi), h => by
    obtain ⟨z, e1, e2, e3, e4, e5⟩ := h
    have e6 : yi r n = z := by
      unfold yi
      rw [hr, e1]
    by_cases hc : lo = hi
    · have e7 : ysv (0, lo, hi) n = .inl (ycst lo) := by
        unfold ysv
        rw [if_pos rfl, if_pos hc]
      rw [e7]
      show x = .inl (yev (yi r) (ycst lo), yev (yi r) (ycst lo)) ∧ _ ∧ _
      rw [ycst_ev]
      have : lo = z := by omega
      rw [this]
      exact ⟨e1, e4, e5⟩
    · have e7 : ysv (0, lo, hi) n = .inl (ysym n) := by
        unfold ysv
        rw [if_pos rfl, if_neg hc]
      rw [e7]
      show x = .inl (yev (yi r) (ysym n), yev (yi r) (ysym n)) ∧ _ ∧ _
      rw [ysym_ev, e6]
      exact ⟨e1, e4, e5⟩
  | (1, k, m), h => by
    refine ⟨hr.symm, ?_⟩
    rcases h with ⟨_, h⟩ | ⟨i, h, _⟩
    · exact ⟨_, h⟩
    · exact ⟨_, h⟩
  | (2, k, m), h => by
    obtain ⟨z, e1, e2, _, e3⟩ := h
    have e6 : yi r n = z := by
      unfold yi
      rw [hr, e1]
    by_cases hc : k = 2
    · have e7 : ysv (2, k, m) n = .inr (.inl (ycst m)) := by
        unfold ysv
        rw [if_neg (show ¬ (2 : Nat) = 0 by decide), if_pos rfl, if_pos hc]
      rw [e7]
      show x = .inr (.inl (some (yev (yi r) (ycst m)))) ∧ ylng (yev (yi r) (ycst m))
      rw [ycst_ev, ← e3 hc]
      exact ⟨e1, e2⟩
    · have e7 : ysv (2, k, m) n = .inr (.inl (ysym n)) := by
        unfold ysv
        rw [if_neg (show ¬ (2 : Nat) = 0 by decide), if_pos rfl, if_neg hc]
      rw [e7]
      show x = .inr (.inl (some (yev (yi r) (ysym n)))) ∧ ylng (yev (yi r) (ysym n))
      rw [ysym_ev, e6]
      exact ⟨e1, e2⟩
  | (a + 3, k, m), h => by
    have h : x = .inr (.inr (0, 0)) := h
    have e0 : ysv (a + 3, k, m) n = .inr (.inr (0, n)) := by
      unfold ysv
      rw [if_neg (show ¬ a + 3 = 0 by omega), if_neg (show ¬ a + 3 = 2 by omega)]
    rw [e0]
    exact ⟨hr.symm, _, h⟩
theorem ystin_drop {r : YR} : ∀ {n : Nat} {ys : List YV} {l : List XV}, ystin r ys l → ystin r (ys.drop n) (l.drop n)
  | 0, _, _, h => by
    rw [List.drop_zero, List.drop_zero]
    exact h
  | n + 1, [], l, h => by
    have h : l = [] := h
    subst h
    rfl
  | n + 1, q :: ys, _, ⟨v, l', e, _, h2⟩ => by
    subst e
    exact ystin_drop (n := n) h2
theorem ywfs_drop {n k : Nat} {ys : List YV} (h : ywfs n ys = true) : ywfs n (ys.drop k) = true := List.all_eq_true.mpr (fun q hq => List.all_eq_true.mp h q (List.mem_of_mem_drop hq))
