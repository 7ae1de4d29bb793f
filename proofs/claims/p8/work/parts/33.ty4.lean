/-! ===== what comes to an end ===== -/
def yreach (f : XS → Option XR) (J : XS → XS → Prop) (Post : Option XV × XW × Nat × Nat → Prop) (S : XS) : Prop := ∃ q, Post q ∧ ∀ P : XR → Prop, XCl f J P → P (.inr q) → P (.inl S)
theorem yreach.go {f : XS → Option XR} {J : XS → XS → Prop} {Post : Option XV × XW × Nat × Nat → Prop} {S S' : XS} (h : f S = some (.inl S')) (k : yreach f J Post S') : yreach f J Post S := by
  obtain ⟨q, h1, h2⟩ := k
  exact ⟨q, h1, fun P hP hq => hP.1 S _ h (h2 P hP hq)⟩
theorem yreach.ret {f : XS → Option XR} {J : XS → XS → Prop} {Post : Option XV × XW × Nat × Nat → Prop} {S : XS} {q : Option XV × XW × Nat × Nat} (h : f S = some (.inr q)) (k : Post q) : yreach f J Post S := ⟨q, k, fun P hP hq => hP.1 S _ h hq⟩
theorem yreach.jmp {f : XS → Option XR} {J : XS → XS → Prop} {Post : Option XV × XW × Nat × Nat → Prop} {S S' : XS} (h : J S S') (k : yreach f J Post S') : yreach f J Post S := by
  obtain ⟨q, h1, h2⟩ := k
  exact ⟨q, h1, fun P hP hq => hP.2.2.1 S S' h (h2 P hP hq)⟩
theorem yreach.sub {f : XS → Option XR} {J : XS → XS → Prop} {Post : Option XV × XW × Nat × Nat → Prop} {pc : Nat} {lv lv' : XL} {st : List XV} {w : XW} {k n : Nat} (h : ∀ q ∈ lv', q ∈ lv) (hk : yreach f J Post (pc, lv', st, w, k, n)) : yreach f J Post (pc, lv, st, w, k, n) := by
  obtain ⟨q, h1, h2⟩ := hk
  exact ⟨q, h1, fun P hP hq => hP.2.2.2 pc lv lv' st w k n h (h2 P hP hq)⟩
/-- every configuration that a state stands for comes to an end -/
def ygood (f : XS → Option XR) (J : XS → XS → Prop) (Post : Option XV × XW × Nat × Nat → Prop) (KD : Nat → Option YK) (ks : List Nat) (ow : XW → Prop) (n0 : Nat) (r0 : YR) (Y : YS) : Prop := n0 ≤ (yf_e Y.2.2.2).length → ∀ (r : YR) (w : XW) (S : XS), yext n0 r0 r → ysat KD ks ow w r Y S → yreach f J Post S
def ygoodO (f : XS → Option XR) (J : XS → XS → Prop) (Post : Option XV × XW × Nat × Nat → Prop) (KD : Nat → Option YK) (ks : List Nat) (ow : XW → Prop) (n0 : Nat) (r0 : YR) : YO → Prop
  | .inl Y => ygood f J Post KD ks ow n0 r0 Y
  | .inr (none, K) => n0 ≤ (yf_e K).length → ∀ (r : YR) (w : XW), yext n0 r0 r → yknow ks w r K → yhp KD ks ow w → Post (none, w, 0, 0)
  | .inr (some v, K) => n0 ≤ (yf_e K).length → ∀ (r : YR) (w : XW) (x : XV), yext n0 r0 r → yknow ks w r K → yhp KD ks ow w → yvin r v x → Post (some x, w, 0, 0)
theorem yext_trans {n m : Nat} {r r' r'' : YR} (h1 : yext n r r') (h2 : yext m r' r'') (h : n ≤ m) : yext n r r'' := fun s hs => (h2 s (by omega)).trans (h1 s hs)
/-- a new symbol -/
def yfr (Y : YS) (e : YE) : Option (YV × YF) := if ywf Y = true then some (ysv e (yf_e Y.2.2.2).length, yf_e Y.2.2.2 ++ [e], Y.2.2.2.2) else none
theorem yfr_ok {ks : List Nat} {w : XW} {r : YR} {Y : YS} {lv : XL} {st : List XV} {e : YE} {x : XV} {v : YV} {K : YF} (hn : yfr Y e = some (v, K)) (h1 : ylvin r Y.2.1 lv) (h2 : ystin r Y.2.2.1 st) (h3 : yknow ks w r Y.2.2.2) (he : yein ks e x) : ∃ r', yext (yf_e Y.2.2.2).length r r' ∧ (yf_e Y.2.2.2).length ≤ (yf_e K).length ∧ ylvin r' Y.2.1 lv ∧ ystin r' Y.2.2.1 st ∧ yknow ks w r' K ∧ yvin r' v x := by
  unfold yfr at hn
  by_cases hw : ywf Y = true
  · rw [if_pos hw] at hn
    cases hn
    unfold ywf at hw
    rw [Bool.and_eq_true, Bool.and_eq_true] at hw
    obtain ⟨w1, w2, w3⟩ := hw
    have hx := yupd_ext (r := r) (n := (yf_e Y.2.2.2).length) (x := x)
    exact ⟨_, hx, by show (yf_e Y.2.2.2).length ≤ (yf_e Y.2.2.2 ++ [e]).length; rw [List.length_append]; omega, ylvin_ext hx w1 h1, ystin_ext hx w2 h2, yknow_new h3 w3 he, ysv_in yupd_at he⟩
  · rw [if_neg hw] at hn
    cases hn
def yrg (z : Int) : Prop := -2147483648 ≤ z ∧ z ≤ 2147483647
def ytop : YE := (0, -2147483648, 2147483647)
theorem ytop_in {ks : List Nat} {z : Int} (h : yrg z) : yein ks ytop (.inl (z, z)) := ⟨z, rfl, h.1, h.2, h.1, h.2⟩
/-- an int that is x unless that leaves the ints' range -/
def yint (Y : YS) (x : YL) : Option (YV × YF) := if (yprv Y.2.2.2 (x.1 + 2147483648, x.2) && yprv Y.2.2.2 (yadd (ycst 2147483647) (-1) x)) = true then some (.inl x, Y.2.2.2) else yfr Y ytop
theorem yint_ok {ks : List Nat} {w : XW} {r : YR} {Y : YS} {lv : XL} {st : List XV} {x : YL} {v : YV} {K : YF} {z : Int} (hn : yint Y x = some (v, K)) (h1 : ylvin r Y.2.1 lv) (h2 : ystin r Y.2.2.1 st) (h3 : yknow ks w r Y.2.2.2) (hz : yrg z) (hx : yrg (yev (yi r) x) → z = yev (yi r) x) : ∃ r', yext (yf_e Y.2.2.2).length r r' ∧ (yf_e Y.2.2.2).length ≤ (yf_e K).length ∧ ylvin r' Y.2.1 lv ∧ ystin r' Y.2.2.1 st ∧ yknow ks w r' K ∧ yvin r' v (.inl (z, z)) := by
  unfold yint at hn
  by_cases hp : (yprv Y.2.2.2 (x.1 + 2147483648, x.2) && yprv Y.2.2.2 (yadd (ycst 2147483647) (-1) x)) = true
  · rw [if_pos hp] at hn
    cases hn
    rw [Bool.and_eq_true] at hp
    have p1 := yprv_ok h3 hp.1
    have p2 := yprv_ok h3 hp.2
    rw [yadd_ev, ycst_ev] at p2
    have p1 : 0 ≤ x.1 + 2147483648 + ysum (yi r) x.2 := p1
    have e0 : yev (yi r) x = x.1 + ysum (yi r) x.2 := rfl
    have hr : yrg (yev (yi r) x) := ⟨by omega, by omega⟩
    have e1 := hx hr
    refine ⟨r, fun _ _ => rfl, Nat.le_refl _, h1, h2, h3, ?_, hr.1, hr.2⟩
    rw [← e1]
  · rw [if_neg hp] at hn
    exact yfr_ok hn h1 h2 h3 (ytop_in hz)
-- numbers of the machine, at exact ones
theorem xe2_ex (g : Int32 → Int32 → Int32) (a b : Int) : ∃ z, xe2 g (a, a) (b, b) = (z, z) ∧ yrg z := ⟨(g (Int32.ofInt a) (Int32.ofInt b)).toInt, by
  unfold xe2
  rw [if_pos ⟨rfl, rfl⟩], x_rng _⟩
theorem xe1_ex (g : Int32 → Int32) (a : Int) : ∃ z, xe1 g (a, a) = (z, z) ∧ yrg z := ⟨(g (Int32.ofInt a)).toInt, by
  unfold xe1
  rw [if_pos rfl], x_rng _⟩
theorem xadd_ex (a b : Int) : ∃ z, xadd (a, a) (b, b) = (z, z) ∧ yrg z ∧ (yrg (a + b) → z = a + b) := by
  unfold xadd
  by_cases h : -2147483648 ≤ a + b ∧ a + b ≤ 2147483647
  · rw [if_pos h]
    exact ⟨a + b, rfl, h, fun _ => rfl⟩
  · rw [if_neg h]
    obtain ⟨z, e, hz⟩ := xe2_ex (fun x y => x + y) a b
    exact ⟨z, e, hz, fun hr => absurd hr h⟩
theorem xsub_ex (a b : Int) : ∃ z, xsub (a, a) (b, b) = (z, z) ∧ yrg z ∧ (yrg (a - b) → z = a - b) := by
  unfold xsub
  by_cases h : -2147483648 ≤ a - b ∧ a - b ≤ 2147483647
  · rw [if_pos h]
    exact ⟨a - b, rfl, h, fun _ => rfl⟩
  · rw [if_neg h]
    obtain ⟨z, e, hz⟩ := xe2_ex (fun x y => x - y) a b
    exact ⟨z, e, hz, fun hr => absurd hr h⟩
theorem x_ofInt {a : Int} (h : yrg a) : (Int32.ofInt a).toInt = a := by
  rw [Int32.toInt_ofInt, x_bmod h.1 (by have := h.2; omega)]
theorem xmul_ex {a b : Int} (ha : yrg a) (hb : yrg b) : ∃ z, xe2 (fun x y => x * y) (a, a) (b, b) = (z, z) ∧ yrg z ∧ (yrg (a * b) → z = a * b) := by
  obtain ⟨z, e, hz⟩ := xe2_ex (fun x y => x * y) a b
  refine ⟨z, e, hz, fun hr => ?_⟩
  unfold xe2 at e
  rw [if_pos ⟨rfl, rfl⟩] at e
  have e1 : (Int32.ofInt a * Int32.ofInt b).toInt = z := congrArg Prod.fst e
  rw [← e1, Int32.toInt_mul, x_ofInt ha, x_ofInt hb, x_bmod hr.1 (by have := hr.2; omega)]
/-! ===== the typed steps, family by family ===== -/
def ykd : YV → Nat
  | .inl _ => 0
  | .inr (.inl _) => 1
  | _ => 2
theorem ykd_ok {r : YR} : ∀ {v : YV} {x : XV}, yvin r v x → xkd x = ykd v ∧ xcat x = ycat v
  | .inl _, _, h => by
    rw [h.1]
    exact ⟨rfl, rfl⟩
  | .inr (.inl _), _, h => by
    rw [h.1]
    exact ⟨rfl, rfl⟩
  | .inr (.inr (0, s)), _, h => by
    obtain ⟨_, q, e⟩ := h
    rw [e]
    exact ⟨rfl, rfl⟩
  | .inr (.inr (1, j)), u, h => by
    have h : u = .inr (.inr (2, j)) := h
    rw [h]
    exact ⟨rfl, rfl⟩
  | .inr (.inr (2, _)), u, h => by
    have h : u = .inr (.inr (0, 0)) := h
    rw [h]
    exact ⟨rfl, rfl⟩
  | .inr (.inr (_ + 3, j)), u, h => by
    have h : u = .inr (.inr (2, j)) := h
    rw [h]
    exact ⟨rfl, rfl⟩
def yk_get : List (Nat × YV) → Nat → Option YV
  | [], _ => none
  | q :: l, i => if q.1 = i then some q.2 else yk_get l i
theorem yk_get_ok {r : YR} {i : Nat} {v : YV} : ∀ {ys : List (Nat × YV)} {l : XL}, ylvin r ys l → yk_get ys i = some v → ∃ x, xk_get l i = some x ∧ yvin r v x
  | [], _, _, h => by cases h
  | q :: ys, _, ⟨u, l', e, h1, h2⟩, h => by
    subst e
    unfold yk_get at h
    unfold xk_get
    dsimp only
    by_cases hq : q.1 = i
    · rw [if_pos hq] at h
      cases h
      exact ⟨u, by rw [if_pos hq], h1⟩
    · rw [if_neg hq] at h
      obtain ⟨x, a1, a2⟩ := yk_get_ok h2 h
      exact ⟨x, by rw [if_neg hq]; exact a1, a2⟩
def yk_set1 (l : List (Nat × YV)) (i : Nat) (v : YV) : List (Nat × YV) := (i, v) :: l.filter (fun q => !(q.1 == i) && !(q.1 + 1 == i && ycat q.2 == 2))
def yk_set2 (l : List (Nat × YV)) (i : Nat) (v : YV) : List (Nat × YV) := (i, v) :: l.filter (fun q => !(q.1 == i) && (!(q.1 == i + 1) && !(q.1 + 1 == i && ycat q.2 == 2)))
theorem ylvin_filter {r : YR} {p : Nat × YV → Bool} {p' : Nat × XV → Bool} (hp : ∀ i v x, yvin r v x → p' (i, x) = p (i, v)) : ∀ {ys : List (Nat × YV)} {l : XL}, ylvin r ys l → ylvin r (ys.filter p) (l.filter p')
  | [], _, h => by
    have h : _ = [] := h
    rw [h]
    rfl
  | q :: ys, _, ⟨u, l', e, h1, h2⟩ => by
    subst e
    have ih := ylvin_filter hp h2
    rw [List.filter_cons, List.filter_cons, hp q.1 q.2 u h1]
    by_cases hq : p (q.1, q.2) = true
    · rw [if_pos hq, if_pos hq]
      exact ⟨u, _, rfl, h1, ih⟩
    · rw [if_neg hq, if_neg hq]
      exact ih
theorem yk_set1_ok {r : YR} {i : Nat} {v : YV} {x : XV} {ys : List (Nat × YV)} {l : XL} (h : ylvin r ys l) (hv : yvin r v x) : ylvin r (yk_set1 ys i v) (xk_set1 l i x) := ⟨x, _, rfl, hv, ylvin_filter (fun i v x h => by dsimp only; rw [(ykd_ok h).2]) h⟩
theorem yk_set2_ok {r : YR} {i : Nat} {v : YV} {x : XV} {ys : List (Nat × YV)} {l : XL} (h : ylvin r ys l) (hv : yvin r v x) : ylvin r (yk_set2 ys i v) (xk_set2 l i x) := ⟨x, _, rfl, hv, ylvin_filter (fun i v x h => by dsimp only; rw [(ykd_ok h).2]) h⟩
theorem xstep_at {cf : XF} {MT : Nat → Option XM} {FT : Nat → Nat → Option FieldType} {FD : Nat → Option (List XV)} {TY : Nat → Option FieldType} {TC : Nat → Option Nat} {exc : List (List XV)} {M : XM} {pc : Nat} {q : XE} (h : xfetch (xm_t M) pc = some q) {lv : XL} {st : List XV} {w : XW} {k n : Nat} : xstep cf MT FT FD TY TC exc M (pc, lv, st, w, k, n) = xins cf MT FT FD TY TC exc M q.1 q.2.1 q.2.2.1 q.2.2.2 pc lv st w k n := by
  unfold xstep
  dsimp only
  rw [h]
