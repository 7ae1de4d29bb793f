/-! ===== typed steps: fields and arrays ===== -/
/-- a long that is one symbol, and that isn't 0 -/
def ynz (K : YF) (x : YL) : Bool := match x.2 with
  | [q] => decide (x.1 = 0 ∧ q.2 = 1) && (match (yf_e K)[q.1]? with
    | some (2, n, _) => decide (n = 1)
    | _ => false)
  | _ => false
theorem ynz_ok {ks : List Nat} {w : XW} {r : YR} {K : YF} (h : yknow ks w r K) {x : YL} (hx : ynz K x = true) : yev (yi r) x ≠ 0 := by
  unfold ynz at hx
  split at hx
  · rename_i q hq
    rw [Bool.and_eq_true] at hx
    obtain ⟨c1, c2⟩ := of_decide_eq_true hx.1
    have h2 := hx.2
    split at h2
    · rename_i n _ he
      obtain ⟨z, e1, _, e3, _⟩ := h.1 q.1 _ he
      have e4 : yi r q.1 = z := by
        unfold yi
        rw [e1]
      have e5 : yev (yi r) x = z := by
        show x.1 + ysum (yi r) x.2 = z
        rw [hq, c1]
        show 0 + (q.2 * yi r q.1 + 0) = z
        rw [c2, e4]
        omega
      rw [e5]
      exact e3 (of_decide_eq_true h2)
    · cases h2
  · cases hx
/-- a value fits what may stand there -/
def yeck (K : YF) (e : YE) (v : YV) : Bool := match e, v with
  | (0, lo, hi), .inl x => yprv K (ydf x (ycst lo) 0) && yprv K (ydf (ycst hi) x 0)
  | (2, n, m), .inr (.inl x) => (decide (n ≠ 1) || (ynz K x || (yprv K (ydf x (ycst 1) 0) || yprv K (ydf (ycst (-1)) x 0)))) && (decide (n ≠ 2) || decide (x = ycst m))
  | (1, k, n), .inr (.inr (0, s)) => (match (yf_e K)[s]? with
    | some (1, k', n') => decide (k' = k ∧ (n' ≠ 1 ∨ n = 1))
    | some (3, _, _) => decide (n = 1)
    | _ => false)
  | (1, _, n), .inr (.inr (2, _)) => decide (n = 1)
  | (3, _, _), .inr (.inr (2, _)) => true
  | _, _ => false
theorem yeck_ok {ks : List Nat} {w : XW} {r : YR} {K : YF} (h : yknow ks w r K) {e : YE} {v : YV} {x : XV} (hv : yvin r v x) (hc : yeck K e v = true) : yein ks e x := by
  unfold yeck at hc
  split at hc
  · rename_i lo hi y
    rw [Bool.and_eq_true] at hc
    have c1 := yprv_ok h hc.1
    have c2 := yprv_ok h hc.2
    rw [ydf_ev, ycst_ev] at c1 c2
    obtain ⟨e1, e2, e3⟩ := hv
    exact ⟨_, e1, by omega, by omega, e2, e3⟩
  · rename_i n m y
    obtain ⟨e1, e2⟩ := hv
    rw [Bool.and_eq_true, Bool.or_eq_true, Bool.or_eq_true, Bool.or_eq_true, Bool.or_eq_true] at hc
    obtain ⟨hc, hc2⟩ := hc
    refine ⟨_, e1, e2, fun hn => ?_, fun hn => by
      rcases hc2 with hc2 | hc2
      · exact absurd hn (of_decide_eq_true hc2)
      · rw [of_decide_eq_true hc2, ycst_ev]⟩
    rcases hc with hc | hc | hc | hc
    · exact absurd hn (of_decide_eq_true hc)
    · exact ynz_ok h hc
    · have c1 := yprv_ok h hc
      rw [ydf_ev, ycst_ev] at c1
      omega
    · have c1 := yprv_ok h hc
      rw [ydf_ev, ycst_ev] at c1
      omega
  · rename_i k n s
    split at hc
    · rename_i k' n' he
      obtain ⟨rfl, hn⟩ := of_decide_eq_true hc
      rw [hv.1]
      rcases h.1 s _ he with ⟨h1, h2⟩ | h1
      · exact Or.inl ⟨hn.resolve_left (fun hh => hh h1), h2⟩
      · exact Or.inr h1
    · rename_i he
      rw [hv.1]
      exact Or.inl ⟨of_decide_eq_true hc, h.1 s _ he⟩
    · cases hc
  · exact Or.inl ⟨of_decide_eq_true hc, hv⟩
  · exact hv
  · cases hc
def yfits (K : YF) (es : List YE) (v : YV) : Bool := es.any (fun e => yeck K e v)
theorem yfits_ok {ks : List Nat} {w : XW} {r : YR} {K : YF} (h : yknow ks w r K) {es : List YE} {v : YV} {x : XV} (hv : yvin r v x) (hc : yfits K es v = true) : yany ks es x := by
  obtain ⟨e, he, h1⟩ := List.any_eq_true.mp hc
  exact ⟨e, he, yeck_ok h hv h1⟩
section YI
variable {f : XS → Option XR} {J : XS → XS → Prop} {Post : Option XV × XW × Nat × Nat → Prop} {KD : Nat → Option YK} {ks : List Nat} {ow : XW → Prop} {n0 : Nat} {r0 : YR} {Y : YS} {outs : List YO}
/-- a new symbol for each thing that may stand there, behind 'pc'; what was read is kept by 'keep' -/
def yalts (Y : YS) (pc : Nat) (keep : YV → YF → YF) : List YE → Option (List YO)
  | [] => some []
  | e :: es => match yfr Y e, yalts Y pc keep es with
    | some (v, K), some l => some (.inl (pc, Y.2.1, v :: Y.2.2.1, keep v K) :: l)
    | _, _ => none
theorem yalts_ok {Y : YS} {pc : Nat} {keep : YV → YF → YF} {r : YR} {w : XW} {lv : XL} {st : List XV} {x : XV} (hk : ∀ (r' : YR) (v : YV) (K : YF), yext (yf_e Y.2.2.2).length r r' → yknow ks w r' K → yvin r' v x → yknow ks w r' (keep v K) ∧ (yf_e (keep v K)).length = (yf_e K).length) (h0 : n0 ≤ (yf_e Y.2.2.2).length) (hr : yext n0 r0 r) (h1 : ylvin r Y.2.1 lv) (h2 : ystin r Y.2.2.1 st) (h3 : yknow ks w r Y.2.2.2) (h4 : yhp KD ks ow w) : ∀ {es : List YE} {outs : List YO}, yalts Y pc keep es = some outs → (∀ o ∈ outs, ygoodO f J Post KD ks ow n0 r0 o) → yany ks es x → yend f J Post (.inl (pc, lv, x :: st, w, 0, 0))
  | [], _, _, _, ⟨_, he, _⟩ => by cases he
  | e :: es, outs, h, hg, ⟨e', he, hx⟩ => by
    unfold yalts at h
    split at h
    · rename_i v K l hv hl
      cases h
      rcases List.mem_cons.mp he with he | he
      · subst he
        obtain ⟨r', c1, c2, c3, c4, c5, c6⟩ := yfr_ok hv h1 h2 h3 hx
        obtain ⟨d1, d2⟩ := hk r' v K c1 c5 c6
        exact yuse (Y' := (pc, Y.2.1, v :: Y.2.2.1, keep v K)) (hg _ List.mem_cons_self) (by show n0 ≤ (yf_e (keep v K)).length; rw [d2]; exact Nat.le_trans h0 c2) (yext_trans hr c1 h0) rfl c3 ⟨x, st, rfl, c6, c4⟩ d1 h4
      · exact yalts_ok hk h0 hr h1 h2 h3 h4 hl (fun o ho => hg o (List.mem_cons_of_mem _ ho)) ⟨e', he, hx⟩
    · cases h
def ykeepf (s g : Nat) (v : YV) (K : YF) : YF := (yf_e K, yf_f K, ((s, g), v) :: yf_m K, yf_a K, yf_l K)
def ykeepa (s : Nat) (i : YL) (v : YV) (K : YF) : YF := (yf_e K, yf_f K, yf_m K, ((s, i), v) :: yf_a K, yf_l K)
/-- the int is just that -/
def yis (K : YF) (z : Int) : YV → Bool
  | .inl x => yprv K (ydf x (ycst z) 0) && yprv K (ydf (ycst z) x 0)
  | _ => false
theorem yis_ok {ks : List Nat} {w : XW} {r : YR} {K : YF} (h3 : yknow ks w r K) {z : Int} {v : YV} {x : XV} (hv : yvin r v x) (h : yis K z v = true) : x = .inl (z, z) := by
  match v, hv, h with
  | .inl y, hv, h =>
    have h : (yprv K (ydf y (ycst z) 0) && yprv K (ydf (ycst z) y 0)) = true := h
    rw [Bool.and_eq_true] at h
    have c1 := yprv_ok h3 h.1
    have c2 := yprv_ok h3 h.2
    rw [ydf_ev, ycst_ev] at c1 c2
    have e : yev (yi r) y = z := by omega
    rw [hv.1, e]
  | .inr (.inl _), _, h => cases h
  | .inr (.inr _), _, h => cases h
theorem ygf_ref {ks : List Nat} {w : XW} {b : XV} {g i : Nat} {x : XV} (hb : b = .inr (.inr (1, i))) (hg : g < 100) (h : ygf ks w b g x) : ∃ c fs, w[i]? = some (.inl (c, fs)) ∧ fs[g]? = some x := by
  rw [hb] at h
  rcases h with ⟨_, h⟩ | ⟨h, _⟩ | ⟨h, _⟩ | ⟨h, _⟩
  · exact h
  · omega
  · omega
  · omega
theorem ygf_mk {ks : List Nat} {w : XW} {b : XV} {g i c : Nat} {fs : List XV} {x : XV} (hb : b = .inr (.inr (1, i))) (hg : g < 100) (hw : w[i]? = some (.inl (c, fs))) (hx : fs[g]? = some x) : ygf ks w b g x := by
  rw [hb]
  exact Or.inl ⟨hg, c, fs, hw, hx⟩
/-- what may stand in a field, by what is known besides: a wish's number is a way -/
def yrg3 (K : YF) (k s g : Nat) (es : List YE) : List YE := if k = 17 ∧ g = 3 ∧ es = [ytop] ∧ (yf_m K).any (fun p => decide (p.1 = (s, 0)) && yis K 3 p.2) = true then [(0, 0, 4)] else es
theorem yrg3_ok {KD : Nat → Option YK} {ks : List Nat} {w : XW} {r : YR} {K : YF} (h3 : yknow ks w r K) (h4 : yheap KD ks w) {i k s g c : Nat} {fs : List XV} {es : List YE} {y : XV} (hv : r s = .inr (.inr (1, i))) (hk : ks[i]? = some k) (hw : w[i]? = some (.inl (c, fs))) (hy : fs[g]? = some y) (hes : yany ks es y) : yany ks (yrg3 K k s g es) y := by
  unfold yrg3
  split
  · rename_i hc
    obtain ⟨rfl, rfl, rfl, ha⟩ := hc
    obtain ⟨p, hp, hc⟩ := List.any_eq_true.mp ha
    rw [Bool.and_eq_true] at hc
    have e1 : p.1 = (s, 0) := of_decide_eq_true hc.1
    obtain ⟨x, b1, b2⟩ := h3.2.2.1 p hp
    rw [e1] at b1
    have b1 : ygf ks w (r s) 0 x := b1
    obtain ⟨c', fs', d1, d2⟩ := ygf_ref hv (by decide) b1
    rw [hw] at d1
    cases d1
    have e2 := yis_ok h3 b2 hc.2
    rw [e2] at d2
    obtain ⟨e, he, hx⟩ := hes
    rw [List.mem_singleton.mp he] at hx
    obtain ⟨z, ez, _, _, f1, f2⟩ := hx
    rw [ez] at hy
    have := h4.2.2.2.2.2.2.2.1 i c fs z hk hw d2 hy
    exact ⟨(0, 0, 4), List.mem_cons_self, z, ez, this.1, this.2, f1, f2⟩
  · exact hes
def yh_get (KD : Nat → Option YK) (c g : Nat) (Y : YS) : Option (List YO) := match Y.2.2.1 with
  | .inr (.inr (0, s)) :: t => (match (yf_e Y.2.2.2)[s]? with
    | some (1, k, n) => (match KD k.toNat with
      | some (.inl (cl, fa)) => if cl = c ∧ n ≠ 1 ∧ g < 100 then (match (yf_m Y.2.2.2).find? (fun q => decide (q.1 = (s, g))) with
        | some q => some [.inl (Y.1 + 3, Y.2.1, q.2 :: t, Y.2.2.2)]
        | none => (match fa[g]? with
          | some es => yalts (Y.1, Y.2.1, t, Y.2.2.2) (Y.1 + 3) (ykeepf s g) (yrg3 Y.2.2.2 k.toNat s g es)
          | none => none)) else none
      | _ => none)
    | _ => none)
  | _ => none
theorem yo_get {c g : Nat} (h : yh_get KD c g Y = some outs) (hg : ∀ o ∈ outs, ygoodO f J Post KD ks ow n0 r0 o) : yone f J Post KD ks ow n0 r0 Y (fun lv st w => xh_get c g Y.1 lv st w 0 0) := by
  unfold yh_get at h
  split at h
  · rename_i s t hs
    split at h
    · rename_i k n he
      split at h
      · rename_i cl fa hd
        by_cases hc : cl = c ∧ n ≠ 1 ∧ g < 100
        · rw [if_pos hc] at h
          obtain ⟨rfl, hn, hg1⟩ := hc
          intro h0 r w lv st hr h1 h2 h3 h4
          rw [hs] at h2
          obtain ⟨x2, st2, e2, ⟨a2, _⟩, a3⟩ := h2
          subst e2
          obtain ⟨i, hv, hk⟩ := (h3.1 s _ he).resolve_left (fun hh => hn hh.1)
          have e3 : x2 = .inr (.inr (1, i)) := a2.trans hv
          subst e3
          obtain ⟨fs, w1, w2, w3⟩ := yheap_f h4.1 hk hd
          have run : ∀ {y : XV}, fs[g]? = some y → xh_get cl g Y.1 lv (.inr (.inr (1, i)) :: st2) w 0 0 = some (.inl (Y.1 + 3, lv, y :: st2, w, 0, 0)) := fun {y} hy => by
            unfold xh_get
            dsimp only
            rw [if_pos rfl, w1]
            dsimp only
            rw [if_pos rfl, hy]
          split at h
          · rename_i q hq
            cases h
            have q0 := List.find?_some hq
            have q1 : q.1 = (s, g) := of_decide_eq_true q0
            obtain ⟨y, b1, b4⟩ := h3.2.2.1 q (List.mem_of_find?_eq_some hq)
            rw [q1] at b1
            obtain ⟨c', fs', b2, b3⟩ := ygf_ref hv hg1 b1
            rw [w1] at b2
            cases b2
            exact ⟨_, run b3, yuse (hg _ List.mem_cons_self) h0 hr rfl h1 ⟨y, _, rfl, b4, a3⟩ h3 h4⟩
          · split at h
            · rename_i es hes
              have hl : g < fs.length := by
                rw [w2]
                exact (List.getElem?_eq_some_iff.mp hes).1
              obtain ⟨y, hy⟩ : ∃ y, fs[g]? = some y := ⟨_, List.getElem?_eq_getElem hl⟩
              refine ⟨_, run hy, yalts_ok (Y := (Y.1, Y.2.1, t, Y.2.2.2)) (fun r' v K c1 c5 c6 => ?_) h0 hr h1 a3 h3 h4 h hg (yrg3_ok h3 h4.1 hv hk w1 hy (w3 g es y hes hy))⟩
              refine ⟨⟨c5.1, c5.2.1, fun q hq => ?_, c5.2.2.2⟩, rfl⟩
              rcases List.mem_cons.mp hq with hq | hq
              · subst hq
                have hls : s < (yf_e Y.2.2.2).length := (List.getElem?_eq_some_iff.mp he).1
                exact ⟨y, ygf_mk ((c1 s hls).trans hv) hg1 w1 hy, c6⟩
              · exact c5.2.2.1 q hq
            · cases h
        · rw [if_neg hc] at h
          cases h
      · cases h
    · cases h
  · cases h
end YI
