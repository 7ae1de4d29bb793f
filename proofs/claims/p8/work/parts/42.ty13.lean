/-! ===== a call by its contract ===== -/
section YI
variable {f : XS → Option XR} {J : XS → XS → Prop} {Post : Option XV × XW × Nat × Nat → Prop} {KD : Nat → Option YK} {ks : List Nat} {ow : XW → Prop} {n0 : Nat} {r0 : YR} {Y : YS} {outs : List YO}
/-- the model has its times -/
def y19 (KD : Nat → Option YK) : Bool := yk106 KD && (match KD 30 with
  | some (.inl (_, fa)) => decide (fa[19]? = some [(1, 42, 0)])
  | _ => false)
theorem ysm_in {w : XW} (h4 : yheap KD ks w) (h : yk106 KD = true) {x : XV} (hx : ysm ks w x) : yein ks (0, 0, 6400000) x := by
  obtain ⟨p, t, es, h1, h2, h3⟩ := hx
  unfold yk106 at h
  split at h
  · rename_i t1 m1 ea1 hd
    obtain ⟨rfl, rfl⟩ := of_decide_eq_true h
    obtain ⟨es', g1, g2, g3⟩ := yheap_a h4 h1 hd
    rw [h2] at g1
    cases g1
    have := ysumv_bd (l := es) (fun y hy => by
      obtain ⟨j, hj⟩ := List.getElem?_of_mem hy
      obtain ⟨e, he, hx⟩ := g3 j y hj
      rw [List.mem_singleton.mp he] at hx
      obtain ⟨q, q1, q2, q3, _⟩ := hx
      rw [q1]
      exact ⟨q2, q3⟩)
    rw [g2] at this
    exact ⟨_, h3, this.1, by have := this.2; omega, by have := this.1; omega, by have := this.2; omega⟩
  · cases h
theorem ysm_ex {w : XW} (h4 : yheap KD ks w) (h : y19 KD = true) {i : Nat} (hk : ks[i]? = some 30) : ∃ x, ysm ks w x := by
  unfold y19 at h
  rw [Bool.and_eq_true] at h
  have h2 := h.2
  split at h2
  · rename_i c fa hd
    have hf := of_decide_eq_true h2
    obtain ⟨fs, w1, w2, w3⟩ := yheap_f h4 hk hd
    have hl : 19 < fs.length := by
      rw [w2]
      exact (List.getElem?_eq_some_iff.mp hf).1
    obtain ⟨v, hv⟩ : ∃ v, fs[19]? = some v := ⟨_, List.getElem?_eq_getElem hl⟩
    obtain ⟨e, he, hx⟩ := w3 19 _ v hf hv
    rw [List.mem_singleton.mp he] at hx
    obtain ⟨p, _, hp⟩ := hx.resolve_left (fun hh => absurd hh.1 (by decide))
    have h1 := h.1
    unfold yk106 at h1
    split at h1
    · rename_i t1 m1 ea1 hd2
      obtain ⟨es, g1, _⟩ := yheap_a h4 hp hd2
      exact ⟨_, p, t1, es, hp, g1, rfl⟩
    · cases h1
  · cases h2
/-- the symbol of a value whose field is named, and what that field may be -/
def ybs (KD : Nat → Option YK) (K : YF) (g : Nat) : YV → Option (Nat × YE)
  | .inr (.inr (0, s)) => (match (yf_e K)[s]? with
    | some (1, k, n) => if n ≠ 1 then (if g < 100 then (match KD k.toNat with
      | some (.inl (_, fa)) => (match fa[g]? with
        | some [(0, lo, hi)] => some (s, (0, lo, hi))
        | _ => none)
      | _ => none) else if g = 100 ∧ k.toNat = 3 then some (s, (0, 0, 1)) else if (decide (g = 106 ∧ k.toNat = 30) && y19 KD) = true then some (s, (0, 0, 6400000)) else none) else none
    | _ => none)
  | .inl (0, [(s, 1)]) => (match (yf_e K)[s]? with
    | some (0, _, _) => if g = 102 ∨ g = 104 then some (s, (0, 0, 1)) else none
    | _ => none)
  | _ => none
theorem y01_in {P : Prop} {x : XV} (h : y01 P x) : yein ks (0, 0, 1) x := by
  obtain ⟨z, a1, a2, a3, _⟩ := h
  exact ⟨z, a1, a2, a3, by omega, by omega⟩
theorem ybs_ok {w : XW} {r : YR} {K : YF} (h3 : yknow ks w r K) (h4 : yheap KD ks w) {g s : Nat} {e : YE} {v : YV} {b : XV} (hv : yvin r v b) (h : ybs KD K g v = some (s, e)) : r s = b ∧ s < (yf_e K).length ∧ e.1 = 0 ∧ ∃ x, ygf ks w b g x ∧ yein ks e x := by
  unfold ybs at h
  split at h
  · rename_i s'
    split at h
    · rename_i k n he
      split at h
      · rename_i hn
        obtain ⟨i, hi, hk⟩ := (h3.1 s' _ he).resolve_left (fun hh => hn hh.1)
        have hb : b = r s' := hv.1
        have hls := (List.getElem?_eq_some_iff.mp he).1
        split at h
        · rename_i hg
          split at h
          · rename_i cl fa hd
            split at h
            · rename_i lo hi' hes
              cases h
              obtain ⟨fs, w1, w2, w3⟩ := yheap_f h4 hk hd
              have hl : g < fs.length := by
                rw [w2]
                exact (List.getElem?_eq_some_iff.mp hes).1
              obtain ⟨z, hz⟩ : ∃ z, fs[g]? = some z := ⟨_, List.getElem?_eq_getElem hl⟩
              obtain ⟨e, he1, he2⟩ := w3 g _ z hes hz
              rw [List.mem_singleton.mp he1] at he2
              exact ⟨hb.symm, hls, rfl, z, ygf_mk (hb.trans hi) hg w1 hz, he2⟩
            · cases h
          · cases h
        · split at h
          · rename_i hc
            cases h
            obtain ⟨rfl, hc⟩ := hc
            obtain ⟨x, hx⟩ := y01_ex (yways ks w i)
            refine ⟨hb.symm, hls, rfl, x, ?_, y01_in hx⟩
            rw [hb, hi]
            exact Or.inr (Or.inl ⟨rfl, hx⟩)
          · split at h
            · rename_i hc
              cases h
              rw [Bool.and_eq_true] at hc
              obtain ⟨rfl, hc2⟩ := of_decide_eq_true hc.1
              rw [hc2] at hk
              obtain ⟨x, hx⟩ := ysm_ex h4 hc.2 hk
              have h19 := hc.2
              unfold y19 at h19
              rw [Bool.and_eq_true] at h19
              refine ⟨hb.symm, hls, rfl, x, ?_, ysm_in h4 h19.1 hx⟩
              rw [hb, hi]
              exact Or.inr (Or.inr (Or.inr ⟨rfl, hx⟩))
            · cases h
      · cases h
    · cases h
  · rename_i s'
    split at h
    · rename_i lo hh he
      split at h
      · rename_i hg
        cases h
        obtain ⟨z, e1, _⟩ := h3.1 s _ he
        have hb : b = r s := by
          rw [hv.1, e1]
          have : yev (yi r) (0, [(s, 1)]) = z := by
            show 0 + (1 * yi r s + 0) = z
            have : yi r s = z := by
              unfold yi
              rw [e1]
            omega
          rw [this]
        rcases hg with rfl | rfl
        · obtain ⟨x, hx⟩ := y01_ex (yplan ks w z)
          refine ⟨hb.symm, (List.getElem?_eq_some_iff.mp he).1, rfl, x, ?_, y01_in hx⟩
          rw [hb, e1]
          exact Or.inl ⟨rfl, hx⟩
        · obtain ⟨x, hx⟩ := y01_ex (ysz ks w z)
          refine ⟨hb.symm, (List.getElem?_eq_some_iff.mp he).1, rfl, x, ?_, y01_in hx⟩
          rw [hb, e1]
          exact Or.inr ⟨rfl, hx⟩
      · cases h
    · cases h
  · cases h
/-- the fields named, as linear forms; those not read yet are read -/
def yghs (KD : Nat → Option YK) (vs : List YV) : List (Nat × Nat) → YS → Option (YF × List YL)
  | [], Y => some (Y.2.2.2, [])
  | q :: G, Y => match vs[q.1]? with
    | some v => (match ybs KD Y.2.2.2 q.2 v with
      | some (s, e) => (match (yf_m Y.2.2.2).find? (fun p => decide (p.1 = (s, q.2))) with
        | some (_, .inl y) => (match yghs KD vs G Y with
          | some (K, T) => if ylin (yf_e Y.2.2.2).length y = true then some (K, y :: T) else none
          | none => none)
        | some _ => none
        | none => (match yfr Y e with
          | some (v, K1) => (match yghs KD vs G (Y.1, Y.2.1, Y.2.2.1, ykeepf s q.2 v K1) with
            | some (K, T) => some (K, ysym (yf_e Y.2.2.2).length :: T)
            | none => none)
          | none => none))
      | none => none)
    | none => none
theorem ystin_at {r : YR} : ∀ {vs : List YV} {as : List XV} {i : Nat} {v : YV}, ystin r vs as → vs[i]? = some v → ∃ x, as[i]? = some x ∧ yvin r v x
  | [], _, _, _, _, h => by simp at h
  | v :: vs, _, 0, _, ⟨u, l', e, h1, h2⟩, h => by
    subst e
    rw [List.getElem?_cons_zero] at h
    cases h
    exact ⟨u, by rw [List.getElem?_cons_zero], h1⟩
  | v :: vs, _, i + 1, _, ⟨u, l', e, h1, h2⟩, h => by
    subst e
    rw [List.getElem?_cons_succ] at h
    obtain ⟨x, a1, a2⟩ := ystin_at h2 h
    exact ⟨x, by rw [List.getElem?_cons_succ]; exact a1, a2⟩
theorem yghs_ok {w : XW} {lv : XL} {st : List XV} {vs : List YV} {as : List XV} (h4 : yheap KD ks w) (hvs : ∀ r : YR, ystin r Y.2.2.1 st → ystin r vs as) : ∀ {G : List (Nat × Nat)} {K0 K : YF} {T : List YL} {r : YR}, yghs KD vs G (Y.1, Y.2.1, Y.2.2.1, K0) = some (K, T) → ylvin r Y.2.1 lv → ystin r Y.2.2.1 st → yknow ks w r K0 → ∃ r' gs, yext (yf_e K0).length r r' ∧ (yf_e K0).length ≤ (yf_e K).length ∧ ylvin r' Y.2.1 lv ∧ ystin r' Y.2.2.1 st ∧ yknow ks w r' K ∧ yghr ks w as G gs ∧ T.length = gs.length ∧ ∀ (i : Nat) (x : YL), T[i]? = some x → yev (yi r') x = ynu gs i
  | [], K0, K, T, r, h, h1, h2, h3 => by
    cases h
    exact ⟨r, [], fun _ _ => rfl, Nat.le_refl _, h1, h2, h3, rfl, rfl, fun i x hx => by simp at hx⟩
  | q :: G, K0, K, T, r, h, h1, h2, h3 => by
    unfold yghs at h
    split at h
    · rename_i v hvs1
      split at h
      · rename_i s e hb
        obtain ⟨b, b1, b2⟩ := ystin_at (hvs r h2) hvs1
        obtain ⟨d1, d2, d3, x0, d4, d5⟩ := ybs_ok h3 h4 b2 hb
        split at h
        · rename_i p y hq
          split at h
          · rename_i K1 T1 hr1
            split at h
            · rename_i hly
              cases h
              obtain ⟨r', gs, c1, c2, c3, c4, c5, c6, c7, c8⟩ := yghs_ok h4 hvs hr1 h1 h2 h3
              have e0 := List.find?_some hq
              have e1 : p = (s, q.2) := of_decide_eq_true e0
              obtain ⟨x, f1, f2⟩ := h3.2.2.1 _ (List.mem_of_find?_eq_some hq)
              dsimp only at f1 f2
              rw [e1] at f1
              have f1 : ygf ks w (r s) q.2 x := f1
              rw [d1] at f1
              refine ⟨r', x :: gs, c1, c2, c3, c4, c5, ⟨x, gs, rfl, ⟨b, b1, f1⟩, c6⟩, by rw [List.length_cons, List.length_cons, c7], fun j z hz => ?_⟩
              match j, hz with
              | 0, hz =>
                rw [List.getElem?_cons_zero] at hz
                cases hz
                rw [yev_ext c1 hly]
                show yev (yi r) _ = ynum x
                rw [f2.1]
                rfl
              | j + 1, hz =>
                rw [List.getElem?_cons_succ] at hz
                rw [c8 j z hz]
                unfold ynu
                rw [List.getElem?_cons_succ]
            · cases h
          · cases h
        · cases h
        · split at h
          · rename_i v' K1 hfr
            split at h
            · rename_i K2 T2 hr2
              cases h
              obtain ⟨r1, g1, g2, g3, g4, g5, g6, g7⟩ := yfr_sym (Y := (Y.1, Y.2.1, Y.2.2.1, K0)) hfr h1 h2 h3 d5
              have g1 : yext (yf_e K0).length r r1 := g1
              have g7 : r1 (yf_e K0).length = x0 := g7
              have k1 : yknow ks w r1 (ykeepf s q.2 v' K1) := ⟨g5.1, g5.2.1, fun p hp => by
                rcases List.mem_cons.mp hp with hp | hp
                · subst hp
                  refine ⟨x0, ?_, g6⟩
                  show ygf ks w (r1 s) q.2 x0
                  rw [g1 s d2, d1]
                  exact d4
                · exact g5.2.2.1 p hp, g5.2.2.2⟩
              obtain ⟨r', gs, c1, c2, c3, c4, c5, c6, c7, c8⟩ := yghs_ok h4 hvs hr2 g3 g4 k1
              have c1 : yext (yf_e K1).length r1 r' := c1
              have g2 : (yf_e K0).length ≤ (yf_e K1).length := g2
              have hlen : (yf_e K1).length = (yf_e K0).length + 1 := by
                unfold yfr at hfr
                split at hfr
                · cases hfr
                  show (yf_e K0 ++ [_]).length = _
                  rw [List.length_append]
                  rfl
                · cases hfr
              refine ⟨r', x0 :: gs, yext_trans g1 c1 g2, Nat.le_trans g2 c2, c3, c4, c5, ⟨x0, gs, rfl, ⟨b, b1, d4⟩, c6⟩, by rw [List.length_cons, List.length_cons, c7], fun j z hz => ?_⟩
              match j, hz with
              | 0, hz =>
                rw [List.getElem?_cons_zero] at hz
                cases hz
                show yev (yi r') (ysym (yf_e K0).length) = ynum x0
                rw [ysym_ev]
                unfold yi
                rw [c1 _ (by omega), g7]
                rfl
              | j + 1, hz =>
                rw [List.getElem?_cons_succ] at hz
                rw [c8 j z hz]
                unfold ynu
                rw [List.getElem?_cons_succ]
            · cases h
          · cases h
      · cases h
    · cases h
theorem yisn_ok {w : XW} {r : YR} {K : YF} (h : yknow ks w r K) {s : Nat} (hs : yisn K s = true) : r s = .inl (yi r s, yi r s) ∨ r s = .inr (.inl (some (yi r s))) := by
  unfold yisn at hs
  split at hs
  · rename_i he
    obtain ⟨z, e1, _⟩ := h.1 s _ he
    left
    unfold yi
    rw [e1]
  · rename_i he
    obtain ⟨z, e1, _⟩ := h.1 s _ he
    right
    unfold yi
    rw [e1]
  · cases hs
theorem yga_num {w w' : XW} {b : XV} {z v : Int} {x : XV} (hb : b = .inl (v, v) ∨ b = .inr (.inl (some v))) : yga w b z x ↔ x = .inl (ybit v z, ybit v z) := by
  rcases hb with hb | hb
  · rw [hb]
    exact Iff.rfl
  · rw [hb]
    exact Iff.rfl
/-- all but the times: what is known of objects stays -/
theorem ygf_fix {w w' : XW} (h : yheap KD ks w) (hf : yfix ks w w') (h42 : ∀ d, KD 42 = some d → ∃ a, d = .inr a) : ∀ {b : XV} {g : Nat} {x : XV}, g ≠ 106 → ygf ks w b g x → ygf ks w' b g x := by
  have cell : ∀ (i c : Nat) (fs : List XV), w[i]? = some (.inl (c, fs)) → w'[i]? = some (.inl (c, fs)) := fun i c fs hi => by
    have hl : i < ks.length := by
      rw [← h.1.1]
      exact (List.getElem?_eq_some_iff.mp hi).1
    obtain ⟨k, hk⟩ : ∃ k, ks[i]? = some k := ⟨_, List.getElem?_eq_getElem hl⟩
    refine (hf i k hk (fun e => ?_)).trans hi
    subst e
    obtain ⟨d, c', h1, h2, h3⟩ := h.1.2 i 42 hk
    obtain ⟨a, ha⟩ := h42 d h1
    subst ha
    rw [hi] at h2
    cases h2
    exact h3
  have rows : yrows ks w w' := fun i k hi hk => hf i k hi (by omega)
  intro b g x hg106 hx
  match b, hx with
  | .inr (.inr (1, i)), hx =>
    rcases hx with ⟨a1, c, fs, a2, a3⟩ | ⟨a1, a2⟩ | ⟨a1, z, z1, z2, z3, z4⟩ | ⟨a1, _⟩
    · exact Or.inl ⟨a1, c, fs, cell i c fs a2, a3⟩
    · exact Or.inr (Or.inl ⟨a1, y01_iff ⟨yways_rows rows, yways_rows rows.symm⟩ a2⟩)
    · refine Or.inr (Or.inr (Or.inl ⟨a1, z, z1, z2, z3, fun hz => ⟨(z4 hz).1, fun c fs n p q t a u b j z' k1 k2 k3 k4 k5 k6 => ?_⟩⟩))
      rw [hf i 30 (z4 hz).1 (by decide)] at k1
      rw [hf p 58 k3 (by decide)] at k5
      rw [hf q 61 k4 (by decide)] at k6
      exact (z4 hz).2 c fs n p q t a u b j z' k1 k2 k3 k4 k5 k6
    · exact absurd a1 hg106
  | .inl q, hx => exact hx.imp (fun hx => ⟨hx.1, y01_iff ⟨yplan_rows rows, yplan_rows rows.symm⟩ hx.2⟩) (fun hx => ⟨hx.1, y01_iff ⟨ysz_rows rows, ysz_rows rows.symm⟩ hx.2⟩)
  | .inr (.inr (0, _)), hx => exact hx.elim
  | .inr (.inr (_ + 2, _)), hx => exact hx.elim
  | .inr (.inl _), hx => exact hx.elim
theorem ykp_ok {w w' : XW} {r : YR} {K : YF} {mo : Nat} (h : yknow ks w r K) (h4 : yheap KD ks w) (hw : mo = 1 → w' = w) (hw2 : mo = 2 → yrows ks w w') (hw3 : mo = 3 → yfix ks w w') (h42 : mo = 3 → ∀ d, KD 42 = some d → ∃ a, d = .inr a) : yknow ks w' r (ykp mo K) ∧ (yf_e (ykp mo K)).length = (yf_e K).length := by
  unfold ykp
  split
  · rename_i h1
    rw [hw h1]
    exact ⟨h, rfl⟩
  · split
    · rename_i _ h3
      refine ⟨⟨h.1, h.2.1, fun q hq => ?_, fun q hq => ?_, h.2.2.2.2⟩, rfl⟩
      · have hq : q ∈ (yf_m K).filter (fun q => decide (q.1.2 ≠ 106)) := hq
        obtain ⟨q1, q2⟩ := List.mem_filter.mp hq
        obtain ⟨x, b1, b2⟩ := h.2.2.1 q q1
        exact ⟨x, ygf_fix h4 (hw3 h3) (h42 h3) (of_decide_eq_true q2) b1, b2⟩
      · obtain ⟨q1, q2⟩ := List.mem_filter.mp hq
        obtain ⟨x, b1, b2⟩ := h.2.2.2.1 q q1
        rw [Bool.or_eq_true] at q2
        rcases q2 with q2 | q2
        · have hn := yisn_ok h q2
          exact ⟨x, (yga_num (w' := w') hn).mpr ((yga_num (w' := w') hn).mp b1), b2⟩
        · split at q2
          · rename_i k n he
            have hk42 := of_decide_eq_true q2
            refine ⟨x, yga_of b1 (fun i a e1 e2 => ?_), b2⟩
            rcases h.1 q.1.1 _ he with ⟨_, e3⟩ | ⟨j, e3, e4⟩
            · rw [e1] at e3
              cases e3
            · rw [e1] at e3
              cases e3
              exact (hw3 h3 i _ e4 hk42).trans e2
          · cases q2
    · refine ⟨⟨h.1, h.2.1, fun q hq => ?_, fun q hq => ?_, h.2.2.2.2⟩, rfl⟩
      · have hq : q ∈ (if mo = 2 then (yf_m K).filter (fun q => decide (q.1.2 ≠ 103 ∧ q.1.2 ≠ 106) && ygk K q.1.1) else []) := hq
        split at hq
        · rename_i h2
          obtain ⟨q1, q2⟩ := List.mem_filter.mp hq
          rw [Bool.and_eq_true] at q2
          obtain ⟨x, b1, b2⟩ := h.2.2.1 q q1
          exact ⟨x, ygf_rows (hw2 h2) (ygk_ok h q2.2) (of_decide_eq_true q2.1) b1, b2⟩
        · cases hq
      · have hq : q ∈ (yf_a K).filter (fun q => yisn K q.1.1) := hq
        obtain ⟨q1, q2⟩ := List.mem_filter.mp hq
        obtain ⟨x, b1, b2⟩ := h.2.2.2.1 q q1
        have hn := yisn_ok h q2
        exact ⟨x, (yga_num (w' := w') hn).mpr ((yga_num (w' := w') hn).mp b1), b2⟩
theorem ybit_mod {z : Int} : ∀ (n : Nat), (∀ k : Nat, k < n → ybit z (k : Int) = 0) → z % (2 ^ n : Int) = 0
  | 0, _ => by
    show z % 1 = 0
    omega
  | n + 1, h => by
    have ih := ybit_mod n (fun k hk => h k (by omega))
    have h1 : z / (2 ^ n : Int) % 2 = 0 := h n (by omega)
    have h2 : z = (2 ^ n : Int) * (z / (2 ^ n : Int)) := by
      have := Int.mul_ediv_add_emod z (2 ^ n : Int)
      omega
    obtain ⟨m, hm⟩ : ∃ m, z / (2 ^ n : Int) = 2 * m := ⟨z / (2 ^ n : Int) / 2, by omega⟩
    rw [hm] at h2
    rw [h2, show (2 ^ (n + 1) : Int) = 2 ^ n * 2 from Int.pow_succ 2 n, ← Int.mul_assoc]
    exact Int.mul_emod_right _ _
theorem ybit_all {z : Int} (hz : ylng z) (h : ∀ k : Nat, k < 64 → ybit z (k : Int) = 0) : z = 0 := by
  have h1 := ybit_mod 64 h
  have h2 : (2 ^ 64 : Int) = 18446744073709551616 := by decide
  rw [h2] at h1
  obtain ⟨a, b⟩ := hz
  omega
theorem ybadd_ok {w : XW} {r : YR} {K : YF} {T : List YL} {nu : Nat → Int} (h3 : yknow ks w r K) (hT : ∀ (i : Nat) (x : YL), T[i]? = some x → yev (yi r) x = nu i) {o : Option (Nat × Nat × Int)} (ho : ybt nu o) : ∃ K', ybadd K T o = some K' ∧ yknow ks w r K' ∧ (yf_e K').length = (yf_e K).length := by
  cases o with
  | none => exact ⟨K, rfl, h3, rfl⟩
  | some q =>
    have ho : ybit (nu q.1) (nu q.2.1) = q.2.2 := ho
    simp only [ybadd]
    split
    · rename_i x y hx hy
      have ex := hT _ x hx
      have ey := hT _ y hy
      split
      · rename_i hc
        rw [if_pos (by rw [← ho, ← ex, ← ey, yev_cst hc.1, yev_cst hc.2])]
        exact ⟨K, rfl, h3, rfl⟩
      · rename_i hnc
        split
        · rename_i s
          split
          · rename_i hc
            rw [Bool.and_eq_true] at hc
            have hn := yisn_ok h3 hc.1
            have es : nu q.1 = yi r s := by
              rw [← ex]
              show 0 + (1 * yi r s + 0) = _
              omega
            have key : yknow ks w r (yf_e K, yf_f K, yf_m K, ((s, y), .inl (ycst q.2.2)) :: yf_a K, yf_l K) := ⟨h3.1, h3.2.1, h3.2.2.1, fun p hp => by
              rcases List.mem_cons.mp hp with hp | hp
              · subst hp
                refine ⟨.inl (q.2.2, q.2.2), (yga_num (w' := w) hn).mpr ?_, ?_⟩
                · dsimp only
                  rw [ey, ← es, ho]
                · show (.inl (q.2.2, q.2.2) : XV) = .inl (yev (yi r) (ycst q.2.2), yev (yi r) (ycst q.2.2)) ∧ _ ∧ _
                  rw [ycst_ev]
                  have : 0 ≤ q.2.2 ∧ q.2.2 < 2 := by
                    rw [← ho]
                    unfold ybit
                    exact ⟨Int.emod_nonneg _ (by decide), Int.emod_lt_of_pos _ (by decide)⟩
                  exact ⟨rfl, by omega, by omega⟩
              · exact h3.2.2.2.1 p hp, h3.2.2.2.2⟩
            split
            · rename_i h0
              exfalso
              rw [Bool.and_eq_true] at h0
              have h1 := h0.2
              unfold yall0 at h1
              rw [Bool.and_eq_true] at h1
              have hnz : yi r s ≠ 0 ∧ ylng (yi r s) := by
                have h2 := h1.1
                split at h2
                · rename_i n _ he
                  obtain ⟨z, e1, e2, e3⟩ := h3.1 s _ he
                  have : yi r s = z := by
                    unfold yi
                    rw [e1]
                  rw [this]
                  exact ⟨e3.1 (of_decide_eq_true h2), e2⟩
                · cases h2
              refine hnz.1 (ybit_all hnz.2 (fun k hk => ?_))
              obtain ⟨p, hp, h4⟩ := List.any_eq_true.mp (List.all_eq_true.mp h1.2 k (List.mem_range.mpr hk))
              rw [Bool.and_eq_true, Bool.and_eq_true] at h4
              obtain ⟨p1, p2, p3⟩ := h4
              have p1 := of_decide_eq_true p1
              have p2 := of_decide_eq_true p2
              have p3 := of_decide_eq_true p3
              obtain ⟨u, u1, u2⟩ := key.2.2.2.1 p hp
              rw [p1, p2] at u1
              rw [p3] at u2
              have u1 := (yga_num (w' := w) hn).mp u1
              have u2 := u2.1
              rw [u1, ycst_ev, ycst_ev] at u2
              exact congrArg (fun u => match u with
                | .inl q => q.1
                | _ => 0) u2
            · exact ⟨_, rfl, key, rfl⟩
          · exact ⟨K, rfl, h3, rfl⟩
        · exact ⟨K, rfl, h3, rfl⟩
    · exact ⟨K, rfl, h3, rfl⟩
theorem ycalls_ok {pc : Nat} {T : List YL} {mo : Nat} {r : YR} {w w' : XW} {lv : XL} {st : List XV} {nu : Nat → Int} {ro : Option XV} (hT : ∀ (i : Nat) (x : YL), T[i]? = some x → yev (yi r) x = nu i) (h0 : n0 ≤ (yf_e Y.2.2.2).length) (hr : yext n0 r0 r) (h1 : ylvin r Y.2.1 lv) (h2 : ystin r Y.2.2.1 st) (h3 : yknow ks w r Y.2.2.2) (h4 : yhp KD ks ow w') (h40 : yheap KD ks w) (hw : mo = 1 → w' = w) (hw2 : mo = 2 → yrows ks w w') (hw3 : mo = 3 → yfix ks w w') (h42 : mo = 3 → ∀ d, KD 42 = some d → ∃ a, d = .inr a) : ∀ {As : List YA} {outs : List YO}, ycalls Y pc T mo As = some outs → (∀ o ∈ outs, ygoodO f J Post KD ks ow n0 r0 o) → (∃ A ∈ As, yans ks nu A.1 ro ∧ (∀ g ∈ A.2.1, 0 ≤ yev nu g) ∧ ybt nu A.2.2) → yend f J Post (.inl (pc, lv, ro.toList ++ st, w', 0, 0))
  | [], _, _, _, ⟨_, hA, _⟩ => by cases hA
  | A :: As, outs, h, hg, ⟨A', hA, hans, hfs, hbt⟩ => by
    unfold ycalls at h
    split at h
    · rename_i l m hl hm
      cases h
      rcases List.mem_cons.mp hA with hA | hA
      · subst hA
        have hg' : ∀ o ∈ l, ygoodO f J Post KD ks ow n0 r0 o := fun o ho => hg o (List.mem_append_left _ ho)
        split at hl
        · rename_i hlin
          obtain ⟨k1, k2⟩ := ykp_ok (mo := mo) h3 h40 hw hw2 hw3 h42
          obtain ⟨K0, d1, d2', d3'⟩ := yasms_ok (l := A'.2.1.map (ysbst T)) k1 (fun g hgm => by
            obtain ⟨g0, g1, g2⟩ := List.mem_map.mp hgm
            rw [← g2, ysbst_ev hT (List.all_eq_true.mp hlin g0 g1)]
            exact hfs g0 g1)
          rw [d1] at hl
          dsimp only at hl
          obtain ⟨K, d5, d2, d6⟩ := ybadd_ok d2' hT hbt
          rw [d5] at hl
          dsimp only at hl
          have d4 : (yf_e K).length = (yf_e Y.2.2.2).length := d6.trans (d3'.trans k2)
          split at hl
          · rename_i hA1
            cases hl
            rw [hA1] at hans
            have hans : ro = none := hans
            subst hans
            exact yuse (Y' := (pc, Y.2.1, Y.2.2.1, K)) (hg' _ List.mem_cons_self) (by show n0 ≤ (yf_e K).length; omega) hr rfl h1 h2 d2 h4
          · rename_i e hA1
            rw [hA1] at hans
            obtain ⟨x, rfl, hx⟩ := hans
            split at hl
            · rename_i v K2 hv
              cases hl
              obtain ⟨r', c1, c2, c3, c4, c5, c6⟩ := yfr_ok (Y := (Y.1, Y.2.1, Y.2.2.1, K)) hv h1 h2 d2 hx
              have c1 : yext (yf_e K).length r r' := c1
              have c2 : (yf_e K).length ≤ (yf_e K2).length := c2
              exact yuse (Y' := (pc, Y.2.1, v :: Y.2.2.1, K2)) (hg' _ List.mem_cons_self) (by show n0 ≤ (yf_e K2).length; omega) (yext_trans hr c1 (by omega)) rfl c3 ⟨x, st, rfl, c6, c4⟩ c5 h4
            · cases hl
          · rename_i x hA1
            rw [hA1] at hans
            split at hl
            · rename_i hx
              cases hl
              obtain ⟨rfl, hrg⟩ := hans
              rw [← ysbst_ev hT hx] at hrg ⊢
              exact yuse (Y' := (pc, Y.2.1, .inl (ysbst T x) :: Y.2.2.1, K)) (hg' _ List.mem_cons_self) (by show n0 ≤ (yf_e K).length; omega) hr rfl h1 ⟨_, st, rfl, ⟨rfl, hrg.1, hrg.2⟩, h2⟩ d2 h4
            · cases hl
        · cases hl
      · exact ycalls_ok hT h0 hr h1 h2 h3 h4 h40 hw hw2 hw3 h42 hm (fun o ho => hg o (List.mem_append_right _ ho)) ⟨A', hA, hans, hfs, hbt⟩
    · cases h
end YI
