/-! ===== what a bound says of a value, of a list, of the locals, of the world ===== -/
def xv_in (as ex : List Nat) : XV → Value → Prop
  | .inl q, v => ∃ x : Int32, v = .int x ∧ q.1 ≤ x.toInt ∧ x.toInt ≤ q.2
  | .inr (.inl o), v => ∃ y : Int64, v = .long y ∧ ∀ z, o = some z → y.toInt = z
  | .inr (.inr q), v => (q.1 = 0 ∧ v = .null) ∨ ∃ a : Nat, v = .ref a ∧ ((q.1 = 1 ∧ as[q.2]? = some a) ∨ (q.1 = 2 ∧ ex[q.2]? = some a))
def xl_in (as ex : List Nat) : List XV → List Value → Prop
  | [], vs => vs = []
  | x :: xs, vs => ∃ v vs', vs = v :: vs' ∧ xv_in as ex x v ∧ xl_in as ex xs vs'
def xk_in (as ex : List Nat) : XL → List (Nat × Value) → Prop
  | [], l => l = []
  | q :: xs, l => ∃ v l', l = (q.1, v) :: l' ∧ xv_in as ex q.2 v ∧ xk_in as ex xs l'
theorem xv_in.cat {as ex : List Nat} : ∀ {x : XV} {v : Value}, xv_in as ex x v → v.category = xcat x
  | .inl _, _, ⟨_, e, _⟩ => by subst e; rfl
  | .inr (.inl _), _, ⟨_, e, _⟩ => by subst e; rfl
  | .inr (.inr _), _, h => by
    rcases h with ⟨_, e⟩ | ⟨_, e, _⟩ <;> subst e <;> rfl
theorem xv_in.mono {as ex : List Nat} (t : List Nat) : ∀ {x : XV} {v : Value}, xv_in as ex x v → xv_in (as ++ t) ex x v
  | .inl _, _, h => h
  | .inr (.inl _), _, h => h
  | .inr (.inr q), v, h => by
    rcases h with h | ⟨a, e, ⟨h1, h2⟩ | h⟩
    · exact Or.inl h
    · exact Or.inr ⟨a, e, Or.inl ⟨h1, by rw [List.getElem?_append_left (List.getElem?_eq_some_iff.mp h2).1]; exact h2⟩⟩
    · exact Or.inr ⟨a, e, Or.inr h⟩
theorem xl_in.mono {as ex : List Nat} (t : List Nat) : ∀ {xs : List XV} {vs : List Value}, xl_in as ex xs vs → xl_in (as ++ t) ex xs vs
  | [], _, h => h
  | _ :: _, _, ⟨v, vs', e, h, k⟩ => ⟨v, vs', e, h.mono t, xl_in.mono t k⟩
theorem xk_in.mono {as ex : List Nat} (t : List Nat) : ∀ {xs : XL} {vs : List (Nat × Value)}, xk_in as ex xs vs → xk_in (as ++ t) ex xs vs
  | [], _, h => h
  | _ :: _, _, ⟨v, vs', e, h, k⟩ => ⟨v, vs', e, h.mono t, xk_in.mono t k⟩
theorem xl_in.get {as ex : List Nat} : ∀ {xs : List XV} {vs : List Value} {i : Nat} {x : XV}, xl_in as ex xs vs → xs[i]? = some x → ∃ v, vs[i]? = some v ∧ xv_in as ex x v
  | [], _, _, _, _, hi => by simp at hi
  | y :: xs, _, i, x, ⟨v, vs', e, h, k⟩, hi => by
    subst e
    cases i with
    | zero =>
      rw [List.getElem?_cons_zero] at hi
      cases hi
      exact ⟨v, by rw [List.getElem?_cons_zero], h⟩
    | succ i =>
      rw [List.getElem?_cons_succ] at hi
      obtain ⟨u, h1, h2⟩ := xl_in.get k hi
      exact ⟨u, by rw [List.getElem?_cons_succ]; exact h1, h2⟩
theorem xl_in.set {as ex : List Nat} {x : XV} {v : Value} (hv : xv_in as ex x v) : ∀ {xs : List XV} {vs : List Value} {i : Nat}, xl_in as ex xs vs → xl_in as ex (xs.set i x) (vs.set i v)
  | [], _, _, h => by
    have h : _ = [] := h
    subst h
    exact rfl
  | y :: xs, _, i, ⟨u, vs', e, h, k⟩ => by
    subst e
    cases i with
    | zero => exact ⟨v, vs', rfl, hv, k⟩
    | succ i => exact ⟨u, vs'.set i v, rfl, h, xl_in.set hv k⟩
theorem xl_in.len {as ex : List Nat} : ∀ {xs : List XV} {vs : List Value}, xl_in as ex xs vs → vs.length = xs.length
  | [], _, h => by
    have h : _ = [] := h
    subst h
    rfl
  | _ :: _, _, ⟨v, vs', e, _, k⟩ => by
    subst e
    simp [xl_in.len k]
theorem xl_in.app {as ex : List Nat} {ys : List XV} {us : List Value} (hy : xl_in as ex ys us) : ∀ {xs : List XV} {vs : List Value}, xl_in as ex xs vs → xl_in as ex (xs ++ ys) (vs ++ us)
  | [], _, h => by
    have h : _ = [] := h
    subst h
    exact hy
  | _ :: _, _, ⟨v, vs', e, h, k⟩ => by
    subst e
    exact ⟨v, vs' ++ us, rfl, h, xl_in.app hy k⟩
theorem xl_in.rev {as ex : List Nat} : ∀ {xs : List XV} {vs : List Value}, xl_in as ex xs vs → xl_in as ex xs.reverse vs.reverse
  | [], _, h => by
    have h : _ = [] := h
    subst h
    exact rfl
  | x :: _, _, ⟨v, vs', e, h, k⟩ => by
    subst e
    rw [List.reverse_cons, List.reverse_cons]
    have h1 : xl_in as ex [x] [v] := ⟨v, [], rfl, h, rfl⟩
    exact xl_in.app h1 (xl_in.rev k)
theorem xl_in.take {as ex : List Nat} : ∀ {xs : List XV} {vs : List Value} (n : Nat), xl_in as ex xs vs → xl_in as ex (xs.take n) (vs.take n)
  | [], _, _, h => by
    have h : _ = [] := h
    subst h
    simp [xl_in]
  | _ :: _, _, 0, _ => by simp [xl_in]
  | _ :: _, _, n + 1, ⟨v, vs', e, h, k⟩ => by
    subst e
    exact ⟨v, vs'.take n, rfl, h, xl_in.take n k⟩
theorem xl_in.drop {as ex : List Nat} : ∀ {xs : List XV} {vs : List Value} (n : Nat), xl_in as ex xs vs → xl_in as ex (xs.drop n) (vs.drop n)
  | [], _, _, h => by
    have h : _ = [] := h
    subst h
    simp [xl_in]
  | _ :: _, _, 0, h => h
  | _ :: _, _, n + 1, ⟨v, vs', e, _, k⟩ => by
    subst e
    exact xl_in.drop n k
theorem xl_in.cats {as ex : List Nat} : ∀ {xs : List XV} {vs : List Value}, xl_in as ex xs vs → (vs.map fun v => v.category).sum = (xs.map xcat).sum
  | [], _, h => by
    have h : _ = [] := h
    subst h
    rfl
  | _ :: _, _, ⟨v, vs', e, h, k⟩ => by
    subst e
    simp [xl_in.cats k, h.cat]
theorem xk_in.get {as ex : List Nat} : ∀ {xs : XL} {l : List (Nat × Value)} {i : Nat} {x : XV}, xk_in as ex xs l → xk_get xs i = some x → ∃ (k : Nat) (v : Value), l[k]? = some (i, v) ∧ xv_in as ex x v
  | [], _, _, _, _, hi => by cases hi
  | q :: xs, _, i, x, ⟨v, l', e, h, k⟩, hi => by
    subst e
    unfold xk_get at hi
    by_cases hq : q.1 = i
    · rw [if_pos hq] at hi
      cases hi
      exact ⟨0, v, by rw [List.getElem?_cons_zero, hq], h⟩
    · rw [if_neg hq] at hi
      obtain ⟨j, u, h1, h2⟩ := xk_in.get k hi
      exact ⟨j + 1, u, by rw [List.getElem?_cons_succ]; exact h1, h2⟩
theorem xk_in.filter {as ex : List Nat} {px : Nat × XV → Bool} {pl : Nat × Value → Bool} (hp : ∀ (q : Nat × XV) (v : Value), xv_in as ex q.2 v → pl (q.1, v) = px q) : ∀ {xs : XL} {l : List (Nat × Value)}, xk_in as ex xs l → xk_in as ex (xs.filter px) (l.filter pl)
  | [], _, h => by
    have h : _ = [] := h
    subst h
    exact rfl
  | q :: xs, _, ⟨v, l', e, h, k⟩ => by
    subst e
    have ih := xk_in.filter hp k
    rw [List.filter_cons, List.filter_cons, hp q v h]
    by_cases hq : px q = true
    · rw [if_pos hq, if_pos hq]
      exact ⟨v, _, rfl, h, ih⟩
    · rw [if_neg hq, if_neg hq]
      exact ih
theorem xk_in.set1 {as ex : List Nat} {xs : XL} {l : List (Nat × Value)} {i : Nat} {x : XV} {v : Value} (h : xk_in as ex xs l) (hv : xv_in as ex x v) : xk_in as ex (xk_set1 xs i x) ((i, v) :: l.filter (fun q => !(q.1 == i) && !(q.1 + 1 == i && q.2.category == 2))) :=
  ⟨v, _, rfl, hv, xk_in.filter (fun q u hu => by simp only [hu.cat]) h⟩
theorem xk_in.set2 {as ex : List Nat} {xs : XL} {l : List (Nat × Value)} {i : Nat} {x : XV} {v : Value} (h : xk_in as ex xs l) (hv : xv_in as ex x v) : xk_in as ex (xk_set2 xs i x) ((i, v) :: l.filter (fun q => !(q.1 == i) && (!(q.1 == i + 1) && !(q.1 + 1 == i && q.2.category == 2)))) :=
  ⟨v, _, rfl, hv, xk_in.filter (fun q u hu => by simp only [hu.cat]) h⟩
theorem xk_in.args {as ex : List Nat} : ∀ {xs : List XV} {vs : List Value} (i : Nat), xl_in as ex xs vs → xk_in as ex (xk_args i xs) (lv_args i vs)
  | [], _, _, h => by
    have h : _ = [] := h
    subst h
    exact rfl
  | x :: xs, _, i, ⟨v, vs', e, h, k⟩ => by
    subst e
    refine ⟨v, _, rfl, h, ?_⟩
    rw [h.cat]
    exact xk_in.args _ k
-- the world
def xa_get (x : vp_A) (j : Nat) : Value := match x.2 with
  | .inl f => .int (f j)
  | .inr (.inl f) => .long (f j)
  | .inr (.inr (.inl f)) => .float (f j)
  | .inr (.inr (.inr (.inl f))) => .double (f j)
  | .inr (.inr (.inr (.inr f))) => va_rf (f j)
def xa_k (t : Nat) (x : vp_A) : Prop := match x.2 with
  | .inl _ => t = 0 ∨ t = 2
  | .inr (.inl _) => t = 1
  | .inr (.inr (.inl _)) => False
  | .inr (.inr (.inr (.inl _))) => False
  | .inr (.inr (.inr (.inr _))) => 3 ≤ t ∧ t < 7
def xc_in (as ex : List Nat) (tA : Nat → ClassId) : XC → va_E → Prop
  | .inl o, e => ∃ vs, e = .inr (o.1, vs) ∧ xl_in as ex o.2 vs
  | .inr o, e => ∃ x : vp_A, e = .inl (tA o.1, x) ∧ x.1 = o.2.length ∧ xa_k o.1 x ∧ ∀ j y, o.2[j]? = some y → xv_in as ex y (xa_get x j)
theorem xc_in.mono {as ex : List Nat} {tA : Nat → ClassId} (t : List Nat) : ∀ {c : XC} {e : va_E}, xc_in as ex tA c e → xc_in (as ++ t) ex tA c e
  | .inl _, _, ⟨vs, e, h⟩ => ⟨vs, e, h.mono t⟩
  | .inr _, _, ⟨x, e, h1, h2, h3⟩ => ⟨x, e, h1, h2, fun j y hy => (h3 j y hy).mono t⟩
abbrev xad (ws : va_W) : List Nat := ws.map (fun q => q.1)
def xw_in (ex : List Nat) (tA : Nat → ClassId) (w : XW) (ws : va_W) : Prop := w.length = ws.length ∧ ∀ (i : Nat) (c : XC), w[i]? = some c → ∃ (a : Nat) (e : va_E), ws[i]? = some (a, e) ∧ xc_in (xad ws) ex tA c e
theorem xad_set {ws : va_W} {i a : Nat} {e0 e : va_E} (h : ws[i]? = some (a, e0)) : xad (ws.set i (a, e)) = xad ws := by
  apply List.ext_getElem?
  intro j
  unfold xad
  rw [List.getElem?_map, List.getElem?_map]
  by_cases hj : j = i
  · subst hj
    rw [List.getElem?_set_self (List.getElem?_eq_some_iff.mp h).1, h]
    rfl
  · rw [List.getElem?_set_ne (Ne.symm hj)]
theorem xad_push (ws : va_W) (a : Nat) (e : va_E) : xad (ws ++ [(a, e)]) = xad ws ++ [a] := by simp [xad]
theorem xad_at {ws : va_W} {i a : Nat} (h : (xad ws)[i]? = some a) : ∃ e, ws[i]? = some (a, e) := by
  unfold xad at h
  rw [List.getElem?_map] at h
  cases hw : ws[i]? with
  | none => rw [hw] at h; cases h
  | some q =>
    rw [hw] at h
    obtain ⟨b, e⟩ := q
    have h : some b = some a := h
    cases h
    exact ⟨e, rfl⟩
theorem xw_in.at {ex : List Nat} {tA : Nat → ClassId} {w : XW} {ws : va_W} {i a : Nat} {c : XC} (h : xw_in ex tA w ws) (hc : w[i]? = some c) (ha : (xad ws)[i]? = some a) : ∃ e, ws[i]? = some (a, e) ∧ xc_in (xad ws) ex tA c e := by
  obtain ⟨b, e, h1, h2⟩ := h.2 i c hc
  obtain ⟨e', h3⟩ := xad_at ha
  rw [h1] at h3
  cases h3
  exact ⟨e, h1, h2⟩
theorem xw_in.set {ex : List Nat} {tA : Nat → ClassId} {w : XW} {ws : va_W} {i a : Nat} {c : XC} {e0 e : va_E} (h : xw_in ex tA w ws) (hi : ws[i]? = some (a, e0)) (hc : xc_in (xad ws) ex tA c e) : xw_in ex tA (w.set i c) (ws.set i (a, e)) := by
  have hl := (List.getElem?_eq_some_iff.mp hi).1
  refine ⟨by simp [h.1], fun j d hj => ?_⟩
  rw [xad_set hi]
  by_cases hji : j = i
  · subst hji
    rw [List.getElem?_set_self (by rw [h.1]; exact hl)] at hj
    cases hj
    exact ⟨a, e, by rw [List.getElem?_set_self hl], hc⟩
  · rw [List.getElem?_set_ne (Ne.symm hji)] at hj
    obtain ⟨b, f, h1, h2⟩ := h.2 j d hj
    exact ⟨b, f, by rw [List.getElem?_set_ne (Ne.symm hji)]; exact h1, h2⟩
theorem xw_in.push {ex : List Nat} {tA : Nat → ClassId} {w : XW} {ws : va_W} {a : Nat} {c : XC} {e : va_E} (h : xw_in ex tA w ws) (hc : xc_in (xad ws ++ [a]) ex tA c e) : xw_in ex tA (w ++ [c]) (ws ++ [(a, e)]) := by
  refine ⟨by simp [h.1], fun j d hj => ?_⟩
  rw [xad_push]
  by_cases hl : j < w.length
  · rw [List.getElem?_append_left hl] at hj
    obtain ⟨b, f, h1, h2⟩ := h.2 j d hj
    exact ⟨b, f, by rw [List.getElem?_append_left (by rw [← h.1]; exact hl)]; exact h1, h2.mono [a]⟩
  · rw [List.getElem?_append_right (by omega)] at hj
    have hz : j - w.length < 1 := (List.getElem?_eq_some_iff.mp hj).1
    have hj0 : j = w.length := by omega
    subst hj0
    rw [Nat.sub_self] at hj
    cases hj
    exact ⟨a, e, by rw [h.1]; simp, hc⟩
-- numbers
theorem x_rng (x : Int32) : -2147483648 ≤ x.toInt ∧ x.toInt ≤ 2147483647 := by
  have h1 := Int32.le_toInt x
  have h2 := Int32.toInt_lt x
  omega
theorem x_one {q : Int × Int} {x : Int32} (h1 : q.1 ≤ x.toInt) (h2 : x.toInt ≤ q.2) (e : q.1 = q.2) : Int32.ofInt q.1 = x := by
  have h : x.toInt = q.1 := by omega
  rw [← h]
  exact Int32.ofInt_toInt x
theorem x_top {q : Int × Int} (hq : q = xtop) (x : Int32) : q.1 ≤ x.toInt ∧ x.toInt ≤ q.2 := by
  subst hq
  exact x_rng x
def xin2 (f : Int × Int → Int × Int → Int × Int) (g : Int32 → Int32 → Int32) : Prop := ∀ (p q : Int × Int) (x y : Int32), p.1 ≤ x.toInt → x.toInt ≤ p.2 → q.1 ≤ y.toInt → y.toInt ≤ q.2 → (f p q).1 ≤ (g x y).toInt ∧ (g x y).toInt ≤ (f p q).2
theorem xe2_in (g : Int32 → Int32 → Int32) : xin2 (xe2 g) g := by
  intro p q x y h1 h2 h3 h4
  unfold xe2
  by_cases h : p.1 = p.2 ∧ q.1 = q.2
  · rw [if_pos h, x_one h1 h2 h.1, x_one h3 h4 h.2]
    exact ⟨Int.le_refl _, Int.le_refl _⟩
  · rw [if_neg h]
    exact x_rng _
theorem xe1_in (g : Int32 → Int32) (p : Int × Int) (x : Int32) (h1 : p.1 ≤ x.toInt) (h2 : x.toInt ≤ p.2) : (xe1 g p).1 ≤ (g x).toInt ∧ (g x).toInt ≤ (xe1 g p).2 := by
  unfold xe1
  by_cases h : p.1 = p.2
  · rw [if_pos h, x_one h1 h2 h]
    exact ⟨Int.le_refl _, Int.le_refl _⟩
  · rw [if_neg h]
    exact x_rng _
theorem x_bmod {z : Int} (h1 : -2147483648 ≤ z) (h2 : z < 2147483648) : z.bmod (2 ^ 32) = z := by
  rw [Int.bmod_eq_of_le (by omega) (by omega)]
theorem xadd_in : xin2 xadd (fun x y => x + y) := by
  intro p q x y h1 h2 h3 h4
  unfold xadd
  by_cases h : -2147483648 ≤ p.1 + q.1 ∧ p.2 + q.2 ≤ 2147483647
  · rw [if_pos h]
    have e : (x + y).toInt = x.toInt + y.toInt := by rw [Int32.toInt_add, x_bmod (by omega) (by omega)]
    show p.1 + q.1 ≤ (x + y).toInt ∧ (x + y).toInt ≤ p.2 + q.2
    rw [e]
    omega
  · rw [if_neg h]
    exact xe2_in _ p q x y h1 h2 h3 h4
theorem xsub_in : xin2 xsub (fun x y => x - y) := by
  intro p q x y h1 h2 h3 h4
  unfold xsub
  by_cases h : -2147483648 ≤ p.1 - q.2 ∧ p.2 - q.1 ≤ 2147483647
  · rw [if_pos h]
    have e : (x - y).toInt = x.toInt - y.toInt := by rw [Int32.toInt_sub, x_bmod (by omega) (by omega)]
    show p.1 - q.2 ≤ (x - y).toInt ∧ (x - y).toInt ≤ p.2 - q.1
    rw [e]
    omega
  · rw [if_neg h]
    exact xe2_in _ p q x y h1 h2 h3 h4
def xlin (o : Option Int) (y : Int64) : Prop := ∀ z, o = some z → y.toInt = z
theorem x_oneL {a : Int} {y : Int64} (h : xlin (some a) y) : Int64.ofInt a = y := by
  rw [← h a rfl]
  exact Int64.ofInt_toInt y
theorem xl2_in (g : Int64 → Int64 → Int64) {a b : Option Int} {x y : Int64} (ha : xlin a x) (hb : xlin b y) : xlin (xl2 g a b) (g x y) := by
  intro z hz
  cases a with
  | none => cases hz
  | some a =>
    cases b with
    | none => cases hz
    | some b =>
      have hz : some (g (Int64.ofInt a) (Int64.ofInt b)).toInt = some z := hz
      rw [x_oneL ha, x_oneL hb] at hz
      exact Option.some.inj hz
theorem xls_in (g : Int64 → Int32 → Int64) (h0 : ∀ y, g 0 y = 0) {a : Option Int} {q : Int × Int} {x : Int64} {y : Int32} (ha : xlin a x) (h1 : q.1 ≤ y.toInt) (h2 : y.toInt ≤ q.2) : xlin (xls g a q) (g x y) := by
  intro z hz
  cases a with
  | none => cases hz
  | some a =>
    unfold xls at hz
    dsimp only at hz
    by_cases h : q.1 = q.2
    · rw [if_pos h, x_oneL ha, x_one h1 h2 h] at hz
      exact Option.some.inj hz
    · rw [if_neg h] at hz
      by_cases e : a = 0
      · rw [if_pos e] at hz
        subst e
        have hx : x = 0 := by
          have := x_oneL ha
          rw [← this]
          rfl
        rw [hx, h0]
        exact Option.some.inj hz
      · rw [if_neg e] at hz
        cases hz
theorem xlt_in {p q : Int × Int} {x y : Int32} {b : Bool} (h1 : p.1 ≤ x.toInt) (h2 : x.toInt ≤ p.2) (h3 : q.1 ≤ y.toInt) (h4 : y.toInt ≤ q.2) (h : xlt p q = some b) : (x < y) ↔ b = true := by
  rw [Int32.lt_iff_toInt_lt]
  unfold xlt at h
  by_cases c1 : p.2 < q.1
  · rw [if_pos c1] at h
    cases h
    exact ⟨fun _ => rfl, fun _ => by omega⟩
  · rw [if_neg c1] at h
    by_cases c2 : q.2 ≤ p.1
    · rw [if_pos c2] at h
      cases h
      exact ⟨fun _ => by omega, fun h => by cases h⟩
    · rw [if_neg c2] at h
      cases h
theorem xeq_in {p q : Int × Int} {x y : Int32} {b : Bool} (h1 : p.1 ≤ x.toInt) (h2 : x.toInt ≤ p.2) (h3 : q.1 ≤ y.toInt) (h4 : y.toInt ≤ q.2) (h : xeq p q = some b) : (x = y) ↔ b = true := by
  rw [← Int32.toInt_inj]
  unfold xeq at h
  by_cases c1 : p.1 = p.2 ∧ q.1 = q.2 ∧ p.1 = q.1
  · rw [if_pos c1] at h
    cases h
    exact ⟨fun _ => rfl, fun _ => by omega⟩
  · rw [if_neg c1] at h
    by_cases c2 : p.2 < q.1 ∨ q.2 < p.1
    · rw [if_pos c2] at h
      cases h
      exact ⟨fun _ => by omega, fun h => by cases h⟩
    · rw [if_neg c2] at h
      cases h
theorem xno_in {o : Option Bool} {b : Bool} {P : Prop} (h : xno o = some b) (k : ∀ b', o = some b' → (P ↔ b' = true)) : (¬ P) ↔ b = true := by
  cases o with
  | none => cases h
  | some a =>
    have ka := k a rfl
    cases a with
    | true =>
      cases h
      exact ⟨fun h => absurd (ka.mpr rfl) h, fun h => by cases h⟩
    | false =>
      cases h
      exact ⟨fun _ => rfl, fun _ hp => by cases ka.mp hp⟩
