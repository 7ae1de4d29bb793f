/-! ===== a contract out of a walk, the theorem ===== -/
/-- the answer is one of those told: from the entry (numbers of the arguments are known), from a cut -/
def ypa0 (n : Nat) (K : YF) (A : YA) (ro : Option YV) : Bool := A.2.all (fun g => ylin n g && yprv K g) && (match A.1, ro with
  | none, none => true
  | some (.inl e), some v => yeck K e v
  | some (.inr x), some (.inl y) => ylin n x && decide (x = y)
  | _, _ => false)
def ypst0 (n : Nat) (As : List YA) (ro : Option YV) (K : YF) : Bool := As.any (fun A => ypa0 n K A ro)
def ypa1 (K : YF) (A : YA) (ro : Option YV) : Bool := decide (A.2 = []) && (match A.1, ro with
  | none, none => true
  | some (.inl e), some v => yeck K e v
  | some (.inr x), some (.inl y) => decide (x.2 = [] ∧ x = y)
  | _, _ => false)
def ypst1 (As : List YA) (ro : Option YV) (K : YF) : Bool := As.any (fun A => ypa1 K A ro)
def ypost (KD : Nat → Option YK) (ks : List Nat) (nu : Nat → Int) (pu : Bool) (w0 : XW) (As : List YA) (q : Option XV × XW × Nat × Nat) : Prop := q.2.2 = (0, 0) ∧ yheap KD ks q.2.1 ∧ (pu = true → q.2.1 = w0) ∧ ∃ A ∈ As, yans ks nu A.1 q.1 ∧ ∀ g ∈ A.2, 0 ≤ yev nu g
def yow (pu : Bool) (w0 : XW) : Option XW := bif pu then some w0 else none
section YI
variable {KD : Nat → Option YK} {ks : List Nat} {n0 : Nat} {r0 : YR} {f : XS → Option XR} {J : XS → XS → Prop} {nu : Nat → Int} {pu : Bool} {w0 : XW} {As : List YA}
theorem yow_ok {w : XW} (h : yhp KD ks (yow pu w0) w) : pu = true → w = w0 := fun hp => by
  subst hp
  exact h.2 w0 rfl
theorem yans_e {r : YR} {K : YF} {w : XW} {e : YE} {v : YV} {x : XV} (h3 : yknow ks w r K) (hv : yvin r v x) (h : yeck K e v = true) : yans ks nu (some (.inl e)) (some x) := ⟨x, rfl, yeck_ok h3 hv h⟩
theorem ypst0_ok (hnu : ∀ (i : Nat), i < n0 → yi r0 i = nu i) {ro : Option YV} {K : YF} (h : ypst0 n0 As ro K = true) : ygoodO f J (ypost KD ks nu pu w0 As) KD ks (yow pu w0) n0 r0 (.inr (ro, K)) := by
  obtain ⟨A, hA, h⟩ := List.any_eq_true.mp h
  unfold ypa0 at h
  rw [Bool.and_eq_true] at h
  obtain ⟨c1, c2⟩ := h
  have ev : ∀ (r : YR) (g : YL), yext n0 r0 r → ylin n0 g = true → yev (yi r) g = yev nu g := fun r g hr hg => by
    have e1 : yev (yi r) g = yev (yi r0) g := yev_ext hr hg
    rw [e1]
    show g.1 + ysum (yi r0) g.2 = g.1 + ysum nu g.2
    have : ∀ (t : List (Nat × Int)), t.all (fun q => decide (q.1 < n0)) = true → ysum (yi r0) t = ysum nu t := fun t => by
      induction t with
      | nil => intro _; rfl
      | cons q t ih =>
        intro ht
        rw [List.all_cons, Bool.and_eq_true] at ht
        show q.2 * yi r0 q.1 + ysum (yi r0) t = q.2 * nu q.1 + ysum nu t
        rw [ih ht.2, hnu q.1 (of_decide_eq_true ht.1)]
    rw [this g.2 hg]
  have fs : ∀ (r : YR) (w : XW), yext n0 r0 r → yknow ks w r K → ∀ g ∈ A.2, 0 ≤ yev nu g := fun r w hr h3 g hg => by
    have hg2 := List.all_eq_true.mp c1 g hg
    rw [Bool.and_eq_true] at hg2
    rw [← ev r g hr hg2.1]
    exact yprv_ok h3 hg2.2
  split at c2
  · rename_i h1
    intro h0 r w hr h3 h4
    exact ⟨rfl, h4.1, yow_ok h4, A, hA, by rw [h1]; rfl, fs r w hr h3⟩
  · rename_i e v h1
    intro h0 r w x hr h3 h4 hv
    exact ⟨rfl, h4.1, yow_ok h4, A, hA, by rw [h1]; exact yans_e h3 hv c2, fs r w hr h3⟩
  · rename_i x y h1
    rw [Bool.and_eq_true] at c2
    have e1 := of_decide_eq_true c2.2
    subst e1
    intro h0 r w X hr h3 h4 hv
    obtain ⟨v1, v2, v3⟩ := hv
    refine ⟨rfl, h4.1, yow_ok h4, A, hA, ?_, fs r w hr h3⟩
    rw [h1, v1, ev r x hr c2.1] at *
    exact ⟨rfl, v2, v3⟩
  · cases c2
theorem ypst1_ok {ro : Option YV} {K : YF} (h : ypst1 As ro K = true) : ygoodO f J (ypost KD ks nu pu w0 As) KD ks (yow pu w0) n0 r0 (.inr (ro, K)) := by
  obtain ⟨A, hA, h⟩ := List.any_eq_true.mp h
  unfold ypa1 at h
  rw [Bool.and_eq_true] at h
  obtain ⟨c1, c2⟩ := h
  have c1 := of_decide_eq_true c1
  have fs : ∀ g ∈ A.2, 0 ≤ yev nu g := fun g hg => by
    rw [c1] at hg
    cases hg
  split at c2
  · rename_i h1
    intro h0 r w hr h3 h4
    exact ⟨rfl, h4.1, yow_ok h4, A, hA, by rw [h1]; rfl, fs⟩
  · rename_i e v h1
    intro h0 r w x hr h3 h4 hv
    exact ⟨rfl, h4.1, yow_ok h4, A, hA, by rw [h1]; exact yans_e h3 hv c2, fs⟩
  · rename_i x y h1
    obtain ⟨e0, e1⟩ := of_decide_eq_true c2
    subst e1
    intro h0 r w X hr h3 h4 hv
    obtain ⟨v1, v2, v3⟩ := hv
    have e2 : yev (yi r) x = yev nu x := (ycst_of e0).trans (ycst_of e0).symm
    refine ⟨rfl, h4.1, yow_ok h4, A, hA, ?_, fs⟩
    rw [h1]
    rw [e2] at v1 v2 v3
    rw [v1]
    exact ⟨rfl, v2, v3⟩
  · cases c2
end YI
/-- all that is checked of a method for one contract -/
def ychk (KD : Nat → Option YK) (CT : Nat → List YC) (MT : Nat → Option XM) (FT : Nat → Nat → Option FieldType) (exc : List (List XV)) (M : XM) (C : YC) (Cs : List YCut) (fu : Nat) : Bool := match yges KD C.1 C.2.1 with
  | some ge => decide ((C.1.map yecat).sum ≤ xm_l M) && (ystp KD C.2.2.1 CT MT FT exc M (ypst0 (C.1 ++ ge).length C.2.2.2) (yexp KD C.2.2.1 CT MT FT exc M (ypst0 (C.1 ++ ge).length C.2.2.2) Cs none fu) (yent C ge) && Cs.all (ycut1 KD C.2.2.1 CT MT FT exc M (ypst1 C.2.2.2) Cs fu))
  | none => false
set_option maxHeartbeats 4000000 in
theorem ychk_ok {l : Launch} {D : va_G} {cl : List vw_C} {tys : List (ClassId × FieldType)} {tA : Nat → ClassId} {ex : List Nat} {exc : List (List XV)} {Ts : List Cond} {SV : List (String × String × String × Nat)} {NW : List (String × Nat × MethodName × String)} {NF : List (String × Nat × String × String × String × String)} {MT : Nat → Option XM} {FT : Nat → Nat → Option FieldType} {FD : Nat → Option (List XV)} {TY : Nat → Option FieldType} {TC : Nat → Option Nat} {cf0 : XF} (hG : ∀ w ∈ Ts, (w.onTables && w.keeps) = true ∨ ∃ ty, w = .arrayClass ty) (hT : xty tys tA) (hTY : ∀ t C, 3 ≤ t → t < 7 → TY t = some (.object C) → tys[t]? = some (tA t, .object C)) (hTC : ∀ t b, TC t = some b → 3 ≤ t ∧ t < 7 ∧ ∃ o : vw_C, cl[b]? = some o ∧ tys[t]? = some (tA t, .object o.1))
    (hok : ∀ j N, MT j = some N → plainName (xm_y N).cls = true ∧ ∀ pc q, xfetch (xm_t N) pc = some q → xdec (xm_c N) pc q.1 ∧ xaux cl Ts MT FT FD TY SV NW NF N pc q.2.1 q.2.2.1 q.2.2.2 q.1)
    (hcf : ∀ (j : Nat) (N : XM) (as : List XV) (w : XW) (ro : Option XV) (w' : XW), MT j = some N → cf0 j as w = some (ro, w') → XMet l D cl tys tA ex exc SV NW NF Ts N as w ro w')
    {KD : Nat → Option YK} {CT : Nat → List YC} (hCT : ∀ (j : Nat) (N : XM) (C : YC), MT j = some N → C ∈ CT j → ycont l D cl tys tA ex exc SV NW NF Ts KD N C) {j : Nat} {M : XM} (hM : MT j = some M) {C : YC} {Cs : List YCut} {fu : Nat} (h : ychk KD CT MT FT exc M C Cs fu = true) : ycont l D cl tys tA ex exc SV NW NF Ts KD M C := by
  unfold ychk at h
  split at h
  · rename_i ge hge
    rw [Bool.and_eq_true, Bool.and_eq_true] at h
    obtain ⟨c1, c2, c3⟩ := h
    have c1 := of_decide_eq_true c1
    intro ks as w ha h4
    -- the values of the symbols at the entry
    have hra : ∀ (i : Nat) (x : XV), as[i]? = some x → yr0 as w C.2.1 i = x := fun i x hx => by
      unfold yr0
      rw [hx]
    obtain ⟨a1, a2, a3⟩ := yen_ok (r := yr0 as w C.2.1) (j := 0) (k := 0) ha (fun i x hx => by
      rw [Nat.zero_add]
      exact hra i x hx)
    obtain ⟨g1, g2, g3, g4⟩ := ygm_ok h4 ha hra (k := C.1.length) hge (fun i q hq => by
      unfold yr0
      rw [List.getElem?_eq_none (by omega)]
      dsimp only
      rw [a3, Nat.add_sub_cancel_left, hq])
    have hnu : ∀ (i : Nat), i < (C.1 ++ ge).length → yi (yr0 as w C.2.1) i = ynug as w C.2.1 i := fun i hi => by
      unfold ynug
      by_cases hl : i < as.length
      · rw [if_pos hl]
        obtain ⟨x, hx⟩ : ∃ x, as[i]? = some x := ⟨_, List.getElem?_eq_getElem hl⟩
        unfold ynu
        rw [hx]
        show yi (yr0 as w C.2.1) i = ynum x
        unfold yi
        rw [hra i x hx]
        rfl
      · rw [if_neg hl]
        have hi2 : i - as.length < C.2.1.length := by
          rw [List.length_append] at hi
          omega
        obtain ⟨q, hq⟩ : ∃ q, C.2.1[i - as.length]? = some q := ⟨_, List.getElem?_eq_getElem hi2⟩
        rw [hq]
        have := g4 _ q hq
        rw [← a3, show as.length + (i - as.length) = i by omega] at this
        exact this
    have hE : ∀ (s : Nat) (e : YE), (C.1 ++ ge)[s]? = some e → yein ks e (yr0 as w C.2.1 s) := fun s e hs => by
      by_cases hl : s < C.1.length
      · rw [List.getElem?_append_left hl] at hs
        obtain ⟨x, b1, b2⟩ := yargs_at ha hs
        rw [hra s x b1]
        exact b2
      · rw [List.getElem?_append_right (by omega)] at hs
        have := g2 _ e hs
        rw [show C.1.length + (s - C.1.length) = s by omega] at this
        exact this
    have hpu : C.2.2.1 = false → yow C.2.2.1 w = none := fun hp => by
      rw [hp]
      rfl
    have key := ywalk_ok (Post := ypost KD ks (ynug as w C.2.1) C.2.2.1 w C.2.2.2) (ks := ks) (ow := yow C.2.2.1 w) (n0 := (C.1 ++ ge).length) (r0 := yr0 as w C.2.1) (cf0 := cf0) (FD := FD) (TY := TY) (TC := TC) hpu hCT (fun ro K hh => ypst0_ok hnu hh) (fun n0 r0 ro K hh => ypst1_ok hh) (List.all_eq_true.mp c3) c2
    obtain ⟨q, hq, hrun⟩ := key (Nat.le_refl _) (yr0 as w C.2.1) w (0, xk_args 0 as, [], w, 0, 0) (fun _ _ => rfl) ⟨xk_args 0 as, [], rfl, a1, rfl, ⟨hE, fun g hg => (by cases hg), g3, (fun q hq => by cases hq), (fun q hq => by cases hq)⟩, h4, fun w1 hw1 => by
      unfold yow at hw1
      cases hp : C.2.2.1 with
      | true =>
        rw [hp] at hw1
        exact Option.some.inj hw1
      | false =>
        rw [hp] at hw1
        cases hw1⟩
    obtain ⟨ro, w', k2, n2⟩ := q
    obtain ⟨p1, p2, p3, p4⟩ := hq
    cases p1
    refine ⟨ro, w', xmet_ofK hG hT hTY hTC hok hcf hM (by rw [a2]; exact c1) ⟨Nat.zero_le _, Nat.zero_le _⟩ (Or.inr rfl) hrun, p2, p3, p4⟩
  · cases h
