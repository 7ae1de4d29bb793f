/-! ===== a call by its contract ===== -/
section YI
variable {f : XS → Option XR} {J : XS → XS → Prop} {Post : Option XV × XW × Nat × Nat → Prop} {KD : Nat → Option YK} {ks : List Nat} {ow : Option XW} {n0 : Nat} {r0 : YR} {Y : YS} {outs : List YO}
/-- the fields named, as linear forms; those not read yet are read -/
def yghs (KD : Nat → Option YK) (vs : List YV) : List (Nat × Nat) → YS → Option (YF × List YL)
  | [], Y => some (Y.2.2.2, [])
  | q :: G, Y => match vs[q.1]? with
    | some (.inr (.inr (0, s))) => (match (yf_e Y.2.2.2)[s]? with
      | some (1, k, n) => if n ≠ 1 then (match (yf_m Y.2.2.2).find? (fun p => decide (p.1 = (s, q.2))) with
        | some (_, .inl y) => (match yghs KD vs G Y with
          | some (K, T) => if ylin (yf_e Y.2.2.2).length y = true then some (K, y :: T) else none
          | none => none)
        | some _ => none
        | none => (match KD k.toNat with
          | some (.inl (_, fa)) => (match fa[q.2]? with
            | some [(0, lo, hi)] => (match yfr Y (0, lo, hi) with
              | some (v, K1) => (match yghs KD vs G (Y.1, Y.2.1, Y.2.2.1, ykeepf s q.2 v K1) with
                | some (K, T) => some (K, ysym (yf_e Y.2.2.2).length :: T)
                | none => none)
              | none => none)
            | _ => none)
          | _ => none)) else none
      | _ => none)
    | _ => none
theorem ygv_at {as : List XV} {w : XW} {q : Nat × Nat} {i c : Nat} {fs : List XV} {x : XV} (h : as[q.1]? = some (.inr (.inr (1, i)))) (hw : w[i]? = some (.inl (c, fs))) (hf : fs[q.2]? = some x) : ygv as w q = ynum x := by
  unfold ygv
  simp only [h, hw, hf]
theorem ystin_at {r : YR} : ∀ {vs : List YV} {as : List XV} {i : Nat} {v : YV}, ystin r vs as → vs[i]? = some v → ∃ x, as[i]? = some x ∧ yvin r v x
  | [], _, _, _, _, h => by simp at h
  | v :: vs, _, 0, _, ⟨u, l', e, h1, h2⟩, h => by
    subst e
    rw [List.getElem?_cons_zero] at h
    cases h
    exact ⟨u, by rw [List.getElem?_cons_zero], h1⟩
  | v :: vs, _, i + 1, _, ⟨u, l', e, h1, h2⟩, h => by
    subst e
    rw [List.getElem?_cons_succ] at h
    obtain ⟨x, a1, a2⟩ := ystin_at h2 h
    exact ⟨x, by rw [List.getElem?_cons_succ]; exact a1, a2⟩
theorem yghs_ok {w : XW} {lv : XL} {st : List XV} {vs : List YV} {as : List XV} (h4 : yheap KD ks w) (hvs : ∀ r : YR, ystin r Y.2.2.1 st → ystin r vs as) : ∀ {G : List (Nat × Nat)} {K0 K : YF} {T : List YL} {r : YR}, yghs KD vs G (Y.1, Y.2.1, Y.2.2.1, K0) = some (K, T) → ylvin r Y.2.1 lv → ystin r Y.2.2.1 st → yknow ks w r K0 → ∃ r', yext (yf_e K0).length r r' ∧ (yf_e K0).length ≤ (yf_e K).length ∧ ylvin r' Y.2.1 lv ∧ ystin r' Y.2.2.1 st ∧ yknow ks w r' K ∧ T.length = G.length ∧ ∀ (i : Nat) (x : YL) (q : Nat × Nat), T[i]? = some x → G[i]? = some q → yev (yi r') x = ygv as w q
  | [], K0, K, T, r, h, h1, h2, h3 => by
    cases h
    exact ⟨r, fun _ _ => rfl, Nat.le_refl _, h1, h2, h3, rfl, fun i x q hx => by simp at hx⟩
  | q :: G, K0, K, T, r, h, h1, h2, h3 => by
    unfold yghs at h
    split at h
    · rename_i s hvs1
      split at h
      · rename_i k n he
        split at h
        · rename_i hn
          obtain ⟨x0, b1, b2, _⟩ := ystin_at (hvs r h2) hvs1
          obtain ⟨i, hv, hk⟩ := (h3.1 s _ he).resolve_left (fun hh => hn hh.1)
          have hx0 : as[q.1]? = some (.inr (.inr (1, i))) := by rw [b1, b2, hv]
          have hls : s < (yf_e K0).length := (List.getElem?_eq_some_iff.mp he).1
          split at h
          · rename_i p y hq
            split at h
            · rename_i K1 T1 hr1
              split at h
              · rename_i hly
                cases h
                obtain ⟨r', c1, c2, c3, c4, c5, c6, c7⟩ := yghs_ok h4 hvs hr1 h1 h2 h3
                refine ⟨r', c1, c2, c3, c4, c5, by rw [List.length_cons, List.length_cons, c6], fun j x q' hx hq' => ?_⟩
                match j, hx, hq' with
                | 0, hx, hq' =>
                  rw [List.getElem?_cons_zero] at hx hq'
                  cases hx
                  cases hq'
                  have e0 := List.find?_some hq
                  have e1 : p = (s, q.2) := of_decide_eq_true e0
                  obtain ⟨i', c', fs', z, d1, d2, d3, d4⟩ := h3.2.2.1 _ (List.mem_of_find?_eq_some hq)
                  dsimp only at d1 d3 d4
                  rw [e1] at d1 d3
                  have d1 : r s = .inr (.inr (1, i')) := d1
                  rw [hv] at d1
                  cases d1
                  have d3 : fs'[q.2]? = some z := d3
                  have hly : ylin (yf_e K0).length y = true := hly
                  rw [yev_ext c1 hly]
                  rw [ygv_at hx0 d2 d3, d4.1]
                  rfl
                | j + 1, hx, hq' =>
                  rw [List.getElem?_cons_succ] at hx hq'
                  exact c7 j x q' hx hq'
              · cases h
            · cases h
          · cases h
          · split at h
            · rename_i cl fa hd
              split at h
              · rename_i lo hi hes
                split at h
                · rename_i v K1 hfr
                  split at h
                  · rename_i K2 T2 hr2
                    cases h
                    obtain ⟨fs, w1, w2, w3⟩ := yheap_f h4 hk hd
                    have hl : q.2 < fs.length := by
                      rw [w2]
                      exact (List.getElem?_eq_some_iff.mp hes).1
                    obtain ⟨z, hz⟩ : ∃ z, fs[q.2]? = some z := ⟨_, List.getElem?_eq_getElem hl⟩
                    obtain ⟨e, he1, he2⟩ := w3 q.2 _ z hes hz
                    rw [List.mem_singleton.mp he1] at he2
                    obtain ⟨r1, g1, g2, g3, g4, g5, g6, g7⟩ := yfr_sym (Y := (Y.1, Y.2.1, Y.2.2.1, K0)) hfr h1 h2 h3 he2
                    have g1 : yext (yf_e K0).length r r1 := g1
                    have g7 : r1 (yf_e K0).length = z := g7
                    have k1 : yknow ks w r1 (ykeepf s q.2 v K1) := ⟨g5.1, g5.2.1, fun p hp => by
                      rcases List.mem_cons.mp hp with hp | hp
                      · subst hp
                        exact ⟨i, cl, fs, z, (g1 s hls).trans hv, w1, hz, g6⟩
                      · exact g5.2.2.1 p hp, g5.2.2.2⟩
                    obtain ⟨r', c1, c2, c3, c4, c5, c6, c7⟩ := yghs_ok h4 hvs hr2 g3 g4 k1
                    have c1 : yext (yf_e K1).length r1 r' := c1
                    have g2 : (yf_e K0).length ≤ (yf_e K1).length := g2
                    have hlen : (yf_e K1).length = (yf_e K0).length + 1 := by
                      unfold yfr at hfr
                      split at hfr
                      · cases hfr
                        show (yf_e K0 ++ [_]).length = _
                        rw [List.length_append]
                        rfl
                      · cases hfr
                    refine ⟨r', yext_trans g1 c1 g2, Nat.le_trans g2 c2, c3, c4, c5, by rw [List.length_cons, List.length_cons, c6], fun j x q' hx hq' => ?_⟩
                    match j, hx, hq' with
                    | 0, hx, hq' =>
                      rw [List.getElem?_cons_zero] at hx hq'
                      cases hx
                      cases hq'
                      obtain ⟨z', ez, _⟩ := he2
                      have e5 : r' (yf_e K0).length = .inl (z', z') := (c1 _ (by omega)).trans (g7.trans ez)
                      show yev (yi r') (ysym (yf_e K0).length) = _
                      rw [ysym_ev, yi_int e5]
                      rw [ygv_at hx0 w1 hz, ez]
                      rfl
                    | j + 1, hx, hq' =>
                      rw [List.getElem?_cons_succ] at hx hq'
                      exact c7 j x q' hx hq'
                  · cases h
                · cases h
              · cases h
            · cases h
        · cases h
      · cases h
    · cases h
theorem ykp_ok {w w' : XW} {r : YR} {K : YF} {pure : Bool} (h : yknow ks w r K) (hw : pure = true → w' = w) : yknow ks w' r (ykp pure K) ∧ (yf_e (ykp pure K)).length = (yf_e K).length := by
  cases pure with
  | true =>
    rw [hw rfl]
    exact ⟨h, rfl⟩
  | false => exact ⟨⟨h.1, h.2.1, (fun q hq => by cases hq), (fun q hq => by cases hq), h.2.2.2.2⟩, rfl⟩
theorem ycalls_ok {pc : Nat} {T : List YL} {pure : Bool} {r : YR} {w w' : XW} {lv : XL} {st : List XV} {nu : Nat → Int} {ro : Option XV} (hT : ∀ (i : Nat) (x : YL), T[i]? = some x → yev (yi r) x = nu i) (h0 : n0 ≤ (yf_e Y.2.2.2).length) (hr : yext n0 r0 r) (h1 : ylvin r Y.2.1 lv) (h2 : ystin r Y.2.2.1 st) (h3 : yknow ks w r Y.2.2.2) (h4 : yhp KD ks ow w') (hw : pure = true → w' = w) : ∀ {As : List YA} {outs : List YO}, ycalls Y pc T pure As = some outs → (∀ o ∈ outs, ygoodO f J Post KD ks ow n0 r0 o) → (∃ A ∈ As, yans ks nu A.1 ro ∧ ∀ g ∈ A.2, 0 ≤ yev nu g) → yend f J Post (.inl (pc, lv, ro.toList ++ st, w', 0, 0))
  | [], _, _, _, ⟨_, hA, _⟩ => by cases hA
  | A :: As, outs, h, hg, ⟨A', hA, hans, hfs⟩ => by
    unfold ycalls at h
    split at h
    · rename_i l m hl hm
      cases h
      rcases List.mem_cons.mp hA with hA | hA
      · subst hA
        have hg' : ∀ o ∈ l, ygoodO f J Post KD ks ow n0 r0 o := fun o ho => hg o (List.mem_append_left _ ho)
        split at hl
        · rename_i hlin
          obtain ⟨k1, k2⟩ := ykp_ok (pure := pure) h3 hw
          obtain ⟨K, d1, d2, d3⟩ := yasms_ok (l := A'.2.map (ysbst T)) k1 (fun g hgm => by
            obtain ⟨g0, g1, g2⟩ := List.mem_map.mp hgm
            rw [← g2, ysbst_ev hT (List.all_eq_true.mp hlin g0 g1)]
            exact hfs g0 g1)
          rw [d1] at hl
          dsimp only at hl
          have d4 : (yf_e K).length = (yf_e Y.2.2.2).length := d3.trans k2
          split at hl
          · rename_i hA1
            cases hl
            rw [hA1] at hans
            have hans : ro = none := hans
            subst hans
            exact yuse (Y' := (pc, Y.2.1, Y.2.2.1, K)) (hg' _ List.mem_cons_self) (by show n0 ≤ (yf_e K).length; omega) hr rfl h1 h2 d2 h4
          · rename_i e hA1
            rw [hA1] at hans
            obtain ⟨x, rfl, hx⟩ := hans
            split at hl
            · rename_i v K2 hv
              cases hl
              obtain ⟨r', c1, c2, c3, c4, c5, c6⟩ := yfr_ok (Y := (Y.1, Y.2.1, Y.2.2.1, K)) hv h1 h2 d2 hx
              have c1 : yext (yf_e K).length r r' := c1
              have c2 : (yf_e K).length ≤ (yf_e K2).length := c2
              exact yuse (Y' := (pc, Y.2.1, v :: Y.2.2.1, K2)) (hg' _ List.mem_cons_self) (by show n0 ≤ (yf_e K2).length; omega) (yext_trans hr c1 (by omega)) rfl c3 ⟨x, st, rfl, c6, c4⟩ c5 h4
            · cases hl
          · rename_i x hA1
            rw [hA1] at hans
            split at hl
            · rename_i hx
              cases hl
              obtain ⟨rfl, hrg⟩ := hans
              rw [← ysbst_ev hT hx] at hrg ⊢
              exact yuse (Y' := (pc, Y.2.1, .inl (ysbst T x) :: Y.2.2.1, K)) (hg' _ List.mem_cons_self) (by show n0 ≤ (yf_e K).length; omega) hr rfl h1 ⟨_, st, rfl, ⟨rfl, hrg.1, hrg.2⟩, h2⟩ d2 h4
            · cases hl
        · cases hl
      · exact ycalls_ok hT h0 hr h1 h2 h3 h4 hw hm (fun o ho => hg o (List.mem_append_right _ ho)) ⟨A', hA, hans, hfs⟩
    · cases h
end YI
