/-! ===== the walk over a method, cut at its loops ===== -/
/-- one step: each state behind it, each answer -/
def ystp (KD : Nat → Option YK) (pu : Nat) (CT : Nat → List YC) (MT : Nat → Option XM) (FT : Nat → Nat → Option FieldType) (exc : List (List XV)) (M : XM) (Pst : Option YV → YF → Bool) (k : YS → Bool) (Y : YS) : Bool := match xfetch (xm_t M) Y.1 with
  | some q => (match yxi KD pu CT MT FT exc M q.1 q.2.1 q.2.2.1 q.2.2.2 Y with
    | some outs => outs.all (fun o => match o with
      | .inl Y' => k Y'
      | .inr a => Pst a.1 a.2)
    | none => false)
  | none => false
def yexp (KD : Nat → Option YK) (pu : Nat) (CT : Nat → List YC) (MT : Nat → Option XM) (FT : Nat → Nat → Option FieldType) (exc : List (List XV)) (M : XM) (Pst : Option YV → YF → Bool) (Cs : List YCut) (mu : Option YL) : Nat → YS → Bool
  | 0, _ => false
  | n + 1, Y => Cs.any (fun C => decide (C.1 = Y.1) && ymatch mu C Y) || ystp KD pu CT MT FT exc M Pst (yexp KD pu CT MT FT exc M Pst Cs mu n) Y
section YI
variable {Post : Option XV × XW × Nat × Nat → Prop} {KD : Nat → Option YK} {ks : List Nat} {ow : XW → Prop} {n0 : Nat} {r0 : YR} {Y : YS} {outs : List YO} {l : Launch} {D : va_G} {cl : List vw_C} {tys : List (ClassId × FieldType)} {tA : Nat → ClassId} {ex : List Nat} {exc : List (List XV)} {SV : List (String × String × String × Nat)} {NW : List (String × Nat × MethodName × String)} {NF : List (String × Nat × String × String × String × String)} {Ts : List Cond} {cf0 : XF} {MT : Nat → Option XM} {FT : Nat → Nat → Option FieldType} {FD : Nat → Option (List XV)} {TY : Nat → Option FieldType} {TC : Nat → Option Nat} {M : XM} {CT : Nat → List YC} {pu : Nat} {Cs : List YCut} {exs : List (List XV)}
theorem ystp_ok (hex : ∀ (j : Nat) (es : List XV), exs[j]? = some es → exc[j]? = some es) (hpu : ymd pu ks ow) (hCT : ∀ (j : Nat) (N : XM) (C : YC), MT j = some N → C ∈ CT j → ycont l D cl tys tA ex exc SV NW NF Ts KD N C) {Pst : Option YV → YF → Bool} {k : YS → Bool} (hP : ∀ ro K, Pst ro K = true → ygoodO (xstep cf0 MT FT FD TY TC exc M) (XJ l D cl tys tA ex exc SV NW NF Ts MT FT FD TY TC M) Post KD ks ow n0 r0 (.inr (ro, K))) (hk : ∀ Y', k Y' = true → ygood (xstep cf0 MT FT FD TY TC exc M) (XJ l D cl tys tA ex exc SV NW NF Ts MT FT FD TY TC M) Post KD ks ow n0 r0 Y') (h : ystp KD pu CT MT FT exs M Pst k Y = true) : ygood (xstep cf0 MT FT FD TY TC exc M) (XJ l D cl tys tA ex exc SV NW NF Ts MT FT FD TY TC M) Post KD ks ow n0 r0 Y := by
  unfold ystp at h
  split at h
  · rename_i q hq
    split at h
    · rename_i outs ho
      refine yxi_ok (i := q.1) (a := q.2.1) (b := q.2.2.1) (z := q.2.2.2) hex hpu hCT hq ho (fun o hoo => ?_)
      have h1 := List.all_eq_true.mp h o hoo
      match o, h1 with
      | .inl Y', h1 => exact hk Y' h1
      | .inr (ro, K), h1 => exact hP ro K h1
    · cases h
  · cases h
theorem yexp_ok (hex : ∀ (j : Nat) (es : List XV), exs[j]? = some es → exc[j]? = some es) (hpu : ymd pu ks ow) (hCT : ∀ (j : Nat) (N : XM) (C : YC), MT j = some N → C ∈ CT j → ycont l D cl tys tA ex exc SV NW NF Ts KD N C) {Pst : Option YV → YF → Bool} {mu : Option YL} {m0 : Int} (hP : ∀ ro K, Pst ro K = true → ygoodO (xstep cf0 MT FT FD TY TC exc M) (XJ l D cl tys tA ex exc SV NW NF Ts MT FT FD TY TC M) Post KD ks ow n0 r0 (.inr (ro, K))) (hmu : ∀ m, mu = some m → ∀ r, yext n0 r0 r → yev (yi r) m = m0) (hcut : ∀ C ∈ Cs, ∀ (r : YR) (w : XW) (S : XS), ysat KD ks ow w r (yst C) S → (∀ m, mu = some m → yev (yi r) (yc_m C) < m0) → yreach (xstep cf0 MT FT FD TY TC exc M) (XJ l D cl tys tA ex exc SV NW NF Ts MT FT FD TY TC M) Post S) : ∀ (n : Nat) (Y : YS), yexp KD pu CT MT FT exs M Pst Cs mu n Y = true → ygood (xstep cf0 MT FT FD TY TC exc M) (XJ l D cl tys tA ex exc SV NW NF Ts MT FT FD TY TC M) Post KD ks ow n0 r0 Y
  | 0, _, h => by cases h
  | n + 1, Y, h => by
    unfold yexp at h
    rw [Bool.or_eq_true] at h
    rcases h with h | h
    · obtain ⟨C, hC, h⟩ := List.any_eq_true.mp h
      rw [Bool.and_eq_true] at h
      intro h0 r w S hr ⟨lv, st, e0, h1, h2, h3, h4⟩
      subst e0
      obtain ⟨e1, e2, r', lc, a1, a2, a3⟩ := ymatch_ok h.2 h1 h2 h3 h4
      subst e1
      rw [e2]
      exact yreach.sub a1 (hcut C hC r' w _ a2 (fun m hm => by
        rw [← hmu m hm r hr]
        exact a3 m hm))
    · exact ystp_ok hex hpu hCT hP (fun Y' hY' => yexp_ok hex hpu hCT hP hmu hcut n Y' hY') h
/-- a cut's own walk: its measure is 0 or more, and falls to each cut that is come to -/
def ycut1 (KD : Nat → Option YK) (pu : Nat) (CT : Nat → List YC) (MT : Nat → Option XM) (FT : Nat → Nat → Option FieldType) (exs : List (List XV)) (M : XM) (Pst : Option YV → YF → Bool) (Cs : List YCut) (fu : Nat) (C : YCut) : Bool := yprv (yst C).2.2.2 (yc_m C) && (ylin (yf_e (yst C).2.2.2).length (yc_m C) && ystp KD pu CT MT FT exs M Pst (yexp KD pu CT MT FT exs M Pst Cs (some (yc_m C)) fu) (yst C))
theorem ycuts_ok (hex : ∀ (j : Nat) (es : List XV), exs[j]? = some es → exc[j]? = some es) (hpu : ymd pu ks ow) (hCT : ∀ (j : Nat) (N : XM) (C : YC), MT j = some N → C ∈ CT j → ycont l D cl tys tA ex exc SV NW NF Ts KD N C) {Pst : Option YV → YF → Bool} {fu : Nat} (hP : ∀ (n0 : Nat) (r0 : YR) ro K, Pst ro K = true → ygoodO (xstep cf0 MT FT FD TY TC exc M) (XJ l D cl tys tA ex exc SV NW NF Ts MT FT FD TY TC M) Post KD ks ow n0 r0 (.inr (ro, K))) (h : ∀ C ∈ Cs, ycut1 KD pu CT MT FT exs M Pst Cs fu C = true) : ∀ (n : Nat), ∀ C ∈ Cs, ∀ (r : YR) (w : XW) (S : XS), ysat KD ks ow w r (yst C) S → yev (yi r) (yc_m C) < (n : Int) → yreach (xstep cf0 MT FT FD TY TC exc M) (XJ l D cl tys tA ex exc SV NW NF Ts MT FT FD TY TC M) Post S
  | n, C, hC, r, w, S, hS, hn => by
    have h1 := h C hC
    unfold ycut1 at h1
    rw [Bool.and_eq_true, Bool.and_eq_true] at h1
    obtain ⟨c1, c2, c3⟩ := h1
    obtain ⟨lv, st, e0, s1, s2, s3, s4⟩ := hS
    have hnn := yprv_ok s3 c1
    cases n with
    | zero => omega
    | succ n =>
      have key := ystp_ok (n0 := (yf_e (yst C).2.2.2).length) (r0 := r) hex hpu hCT (hP _ _) (yexp_ok (n0 := (yf_e (yst C).2.2.2).length) (r0 := r) (m0 := yev (yi r) (yc_m C)) hex hpu hCT (hP _ _) (fun m hm r1 hr1 => by
        cases hm
        exact yev_ext hr1 c2) (fun C' hC' r1 w1 S1 hS1 hm => ycuts_ok hex hpu hCT hP h n C' hC' r1 w1 S1 hS1 (by
          have := hm _ rfl
          omega)) fu) c3
      exact key (Nat.le_refl _) r w S (fun _ _ => rfl) ⟨lv, st, e0, s1, s2, s3, s4⟩
  termination_by n => n
/-- a method's walk from a state: to its answers, or to its cuts -/
theorem ywalk_ok (hex : ∀ (j : Nat) (es : List XV), exs[j]? = some es → exc[j]? = some es) (hpu : ymd pu ks ow) (hCT : ∀ (j : Nat) (N : XM) (C : YC), MT j = some N → C ∈ CT j → ycont l D cl tys tA ex exc SV NW NF Ts KD N C) {Pst0 Pst1 : Option YV → YF → Bool} {fu : Nat} (hP0 : ∀ ro K, Pst0 ro K = true → ygoodO (xstep cf0 MT FT FD TY TC exc M) (XJ l D cl tys tA ex exc SV NW NF Ts MT FT FD TY TC M) Post KD ks ow n0 r0 (.inr (ro, K))) (hP1 : ∀ (n0 : Nat) (r0 : YR) ro K, Pst1 ro K = true → ygoodO (xstep cf0 MT FT FD TY TC exc M) (XJ l D cl tys tA ex exc SV NW NF Ts MT FT FD TY TC M) Post KD ks ow n0 r0 (.inr (ro, K))) (h : ∀ C ∈ Cs, ycut1 KD pu CT MT FT exs M Pst1 Cs fu C = true) (h0 : ystp KD pu CT MT FT exs M Pst0 (yexp KD pu CT MT FT exs M Pst0 Cs none fu) Y = true) : ygood (xstep cf0 MT FT FD TY TC exc M) (XJ l D cl tys tA ex exc SV NW NF Ts MT FT FD TY TC M) Post KD ks ow n0 r0 Y :=
  ystp_ok hex hpu hCT hP0 (yexp_ok (m0 := 0) hex hpu hCT hP0 (fun m hm => by cases hm) (fun C hC r w S hS _ => ycuts_ok hex hpu hCT hP1 h ((yev (yi r) (yc_m C)).toNat + 1) C hC r w S hS (by omega)) fu) h0
end YI
