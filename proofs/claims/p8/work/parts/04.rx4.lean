/-! ===== rows, objects, calls ===== -/
theorem xv_in.nil {as ex : List Nat} : ∀ {x : XV} {v : Value}, xv_in [] [] x v → xv_in as ex x v
  | .inl _, _, h => h
  | .inr (.inl _), _, h => h
  | .inr (.inr q), v, h => by
    rcases h with h | ⟨a, _, ⟨_, h2⟩ | ⟨_, h2⟩⟩
    · exact Or.inl h
    · simp at h2
    · simp at h2
theorem x_ofNat {k : Nat} (h : k < 2147483648) : (Int32.ofNat k).toInt = (k : Int) := nI_toInt (n := k) h
/-- what the tables say of the kinds of arrays -/
def xty (tys : List (ClassId × FieldType)) (tA : Nat → ClassId) : Prop := tys[0]? = some (tA 0, .int) ∧ tys[1]? = some (tA 1, .long) ∧ tys[2]? = some (tA 2, .boolean) ∧ ∀ t, 3 ≤ t → t < 7 → ∃ C, tys[t]? = some (tA t, .object C)
/-- a row that lies outside of the world -/
def xext (A : Nat → Prop) (ex : List Nat) (exc : List (List XV)) (U : State) : Prop := ∀ (j a : Nat) (es : List XV), ex[j]? = some a → exc[j]? = some es → ∃ f, va_T .int a es.length f A U U.heap ∧ ∀ (i : Nat) (x : XV), es[i]? = some x → xv_in [] [] x (f i)
section XO
variable {p : Program} {l : Launch} {e : Env} {R : Room} {s : State} {m : MethodId} {args : Array Value} {below : List Frame} {meth : Method} {c : Code} {Q : State → Prop} {cc : ByteArray} {nL : Nat} {D : va_G} {cl : List vw_C} {tys : List (ClassId × FieldType)} {tA : Nat → ClassId} {A : Nat → Prop} {as0 ex : List Nat} {exc : List (List XV)} {ret : Option FieldType} {pc : Nat} {lv : XL} {st : List XV} {w : XW} {k n : Nat} {r : XR}
theorem xarr_in {q : Nat × Nat} {t : Nat} {es : List XV} {v : Value} {ws : va_W} (hw : xw_in ex tA w ws) (h : xarr w exc q = some (t, es)) (hv : xv_in (xad ws) ex (.inr (.inr q)) v) : ∃ a : Nat, v = .ref a ∧ ((q.1 = 1 ∧ ∃ x : vp_A, ws[q.2]? = some (a, .inl (tA t, x)) ∧ x.1 = es.length ∧ xa_k t x ∧ ∀ (j : Nat) (y : XV), es[j]? = some y → xv_in (xad ws) ex y (xa_get x j)) ∨ (t = 0 ∧ ∃ j : Nat, ex[j]? = some a ∧ exc[j]? = some es)) := by
  unfold xarr at h
  by_cases h1 : q.1 = 1
  · rw [if_pos h1] at h
    cases hc : w[q.2]? with
    | none => rw [hc] at h; cases h
    | some z =>
      rw [hc] at h
      match z, hc, h with
      | .inl _, _, h => cases h
      | .inr o, hc, h =>
        cases h
        rcases hv with ⟨h0, _⟩ | ⟨a, rfl, ⟨_, ha⟩ | ⟨h2, _⟩⟩
        · omega
        · obtain ⟨e0, g1, x, rfl, g2, g3, g4⟩ := hw.at hc ha
          exact ⟨a, rfl, Or.inl ⟨h1, x, g1, g2, g3, g4⟩⟩
        · omega
  · rw [if_neg h1] at h
    by_cases h2 : q.1 = 2
    · rw [if_pos h2] at h
      cases hc : exc[q.2]? with
      | none => rw [hc] at h; cases h
      | some z =>
        rw [hc] at h
        cases h
        rcases hv with ⟨h0, _⟩ | ⟨a, rfl, ⟨h3, _⟩ | ⟨_, ha⟩⟩
        · omega
        · omega
        · exact ⟨a, rfl, Or.inr ⟨rfl, q.2, ha, hc⟩⟩
    · rw [if_neg h2] at h
      cases h
theorem xo_ald {ty kd : Nat} {i : Instr} (hi : (i = .iaload ∧ ty = 0 ∧ kd = 0) ∨ (i = .laload ∧ ty = 1 ∧ kd = 1) ∨ (i = .baload ∧ ty = 2 ∧ kd = 0) ∨ (i = .aaload ∧ ty = 3 ∧ kd = 2)) (hx : p.tables.exec = Jvm.exec) (hb : c.code = cc) (hd : decode cc pc = .ok (i, 1)) (hK : va_K D cl tys s) (hT : xty tys tA) (hE : xext A ex exc s) (h : xh_ald ty kd exc pc lv st w k n = some r) (hr : XRs p l e R s m args below meth c Q cc nL D cl tA A as0 ex ret r) : XSat p l e R s m args below meth c Q nL D cl tA A as0 ex (pc, lv, st, w, k, n) := by
  match st, h with
  | .inl z :: .inr (.inr q) :: st, h =>
    unfold xh_ald at h
    dsimp only at h
    cases ha : xarr w exc q with
    | none => rw [ha] at h; cases h
    | some o =>
      obtain ⟨t, es⟩ := o
      rw [ha] at h
      dsimp only at h
      by_cases ht : ty = t ∨ (ty = 3 ∧ 3 ≤ t)
      · rw [if_pos ht] at h
        cases hv : xread es z with
        | none => rw [hv] at h; cases h
        | some y =>
          rw [hv] at h
          dsimp only at h
          by_cases hk : xkd y = kd
          · rw [if_pos hk] at h
            cases h
            intro H locs ls vs lw ws ⟨h1, h2, h3, h4, h5, h6, h7, h8⟩
            obtain ⟨_, _, rfl, ⟨j, rfl, j1, j2⟩, v, vs', rfl, hq, h2⟩ := h2
            obtain ⟨hin, y0, hy0, hyy⟩ := xread_in (as := xad ws) (ex := ex) hv j1 j2
            obtain ⟨a, rfl, hc⟩ := xarr_in h3 ha hq
            rcases hc with ⟨-, x, g1, g2, g3, g4⟩ | ⟨t0, b, g1, g2⟩
            · have hval := hyy _ (g4 _ _ hy0)
              have go : W p l e R s m args below meth c H locs k n Q (F0 m (pc + 1) ls (xa_get x j.toNatClampNeg :: vs')) := hr H locs ls _ lw ws ⟨h1, ⟨_, vs', rfl, hval, h2⟩, h3, h4, h5, h6, h7, h8⟩
              obtain ⟨N, u⟩ := x
              have g2 : N = es.length := g2
              subst g2
              match u, g1, g3, go with
              | .inl f, g1, g3, go =>
                have g3 : t = 0 ∨ t = 2 := g3
                rcases hi with ⟨rfl, rfl, rfl⟩ | ⟨rfl, rfl, rfl⟩ | ⟨rfl, rfl, rfl⟩ | ⟨rfl, rfl, rfl⟩
                · have t0 : t = 0 := by omega
                  subst t0
                  exact va_iald hx hb hK h4 q.2 0 g1 hT.1 hin hd go
                · omega
                · have t0 : t = 2 := by omega
                  subst t0
                  exact va_zald hx hb hK h4 q.2 2 g1 hT.2.2.1 hin hd go
                · omega
              | .inr (.inl f), g1, g3, go =>
                have g3 : t = 1 := g3
                subst g3
                rcases hi with ⟨rfl, rfl, rfl⟩ | ⟨rfl, rfl, rfl⟩ | ⟨rfl, rfl, rfl⟩ | ⟨rfl, rfl, rfl⟩
                · omega
                · exact va_lald hx hb hK h4 q.2 1 g1 hT.2.1 hin hd go
                · omega
                · omega
              | .inr (.inr (.inl f)), _, g3, _ => exact absurd g3 id
              | .inr (.inr (.inr (.inl f))), _, g3, _ => exact absurd g3 id
              | .inr (.inr (.inr (.inr f))), g1, g3, go =>
                have g3 : 3 ≤ t ∧ t < 7 := g3
                obtain ⟨C, hC⟩ := hT.2.2.2 t g3.1 g3.2
                rcases hi with ⟨rfl, rfl, rfl⟩ | ⟨rfl, rfl, rfl⟩ | ⟨rfl, rfl, rfl⟩ | ⟨rfl, rfl, rfl⟩
                · omega
                · omega
                · omega
                · exact va_aldq hx hb hK h4 q.2 t g1 hC hin hd go
            · subst t0
              rcases hi with ⟨rfl, rfl, rfl⟩ | ⟨rfl, rfl, rfl⟩ | ⟨rfl, rfl, rfl⟩ | ⟨rfl, rfl, rfl⟩
              · obtain ⟨f, f1, f2⟩ := hE b a es g1 g2
                exact va_ti hx hb f1 h6 hin rfl hd (hr H locs ls _ lw ws ⟨h1, ⟨_, vs', rfl, hyy _ (f2 _ _ hy0).nil, h2⟩, h3, h4, h5, h6, h7, h8⟩)
              · omega
              · omega
              · omega
          · rw [if_neg hk] at h
            cases h
      · rw [if_neg ht] at h
        cases h
theorem xo_alen (hx : p.tables.exec = Jvm.exec) (hb : c.code = cc) (hd : decode cc pc = .ok (.arraylength, 1)) (hK : va_K D cl tys s) (hT : xty tys tA) (hE : xext A ex exc s) (h : xh_alen exc pc lv st w k n = some r) (hr : XRs p l e R s m args below meth c Q cc nL D cl tA A as0 ex ret r) : XSat p l e R s m args below meth c Q nL D cl tA A as0 ex (pc, lv, st, w, k, n) := by
  match st, h with
  | .inr (.inr q) :: st, h =>
    unfold xh_alen at h
    dsimp only at h
    cases ha : xarr w exc q with
    | none => rw [ha] at h; cases h
    | some o =>
      obtain ⟨t, es⟩ := o
      rw [ha] at h
      dsimp only at h
      by_cases hl : es.length < 2147483648
      · rw [if_pos hl] at h
        cases h
        intro H locs ls vs lw ws ⟨h1, h2, h3, h4, h5, h6, h7, h8⟩
        obtain ⟨v, vs', rfl, hq, h2⟩ := h2
        obtain ⟨a, rfl, hc⟩ := xarr_in h3 ha hq
        have go : W p l e R s m args below meth c H locs k n Q (F0 m (pc + 1) ls (.int (Int32.ofNat es.length) :: vs')) := hr H locs ls _ lw ws ⟨h1, ⟨_, vs', rfl, ⟨Int32.ofNat es.length, rfl, by rw [x_ofNat hl]; exact Int.le_refl _, by rw [x_ofNat hl]; exact Int.le_refl _⟩, h2⟩, h3, h4, h5, h6, h7, h8⟩
        rcases hc with ⟨-, x, g1, g2, g3, g4⟩ | ⟨t0, b, g1, g2⟩
        · have hty : ∃ ty, tys[t]? = some (tA t, ty) := by
            obtain ⟨N, u⟩ := x
            match u, g3 with
            | .inl f, g3 =>
              have g3 : t = 0 ∨ t = 2 := g3
              rcases g3 with rfl | rfl
              · exact ⟨_, hT.1⟩
              · exact ⟨_, hT.2.2.1⟩
            | .inr (.inl f), g3 =>
              have g3 : t = 1 := g3
              subst g3
              exact ⟨_, hT.2.1⟩
            | .inr (.inr (.inl f)), g3 => exact absurd g3 id
            | .inr (.inr (.inr (.inl f))), g3 => exact absurd g3 id
            | .inr (.inr (.inr (.inr f))), g3 =>
              obtain ⟨C, hC⟩ := hT.2.2.2 t g3.1 g3.2
              exact ⟨_, hC⟩
          obtain ⟨ty, hty⟩ := hty
          exact va_alen hx hb hK h4 q.2 t g1 hty (by rw [g2]) hd go
        · obtain ⟨f, f1, f2⟩ := hE b a es g1 g2
          exact va_tlen hx hb f1 h6 rfl hd go
      · rw [if_neg hl] at h
        cases h
theorem x_bool01 {x : XV} {as : List Nat} {y : Int32} (h : xbool x = true) (hv : xv_in as ex x (.int y)) : y = 0 ∨ y = 1 := by
  match x, h, hv with
  | .inl q, h, hv =>
    obtain ⟨u, e1, h1, h2⟩ := hv
    cases e1
    have h : decide (0 ≤ q.1 ∧ q.2 ≤ 1) = true := h
    have h := of_decide_eq_true h
    rcases (show y.toInt = 0 ∨ y.toInt = 1 by omega) with e | e
    · exact Or.inl (Int32.toInt_inj.mp (e.trans rfl))
    · exact Or.inr (Int32.toInt_inj.mp (e.trans rfl))
/-- a store into a row of numbers -/
theorem xo_ast {ty kd : Nat} {i : Instr} (hi : (i = .iastore ∧ ty = 0 ∧ kd = 0) ∨ (i = .lastore ∧ ty = 1 ∧ kd = 1) ∨ (i = .bastore ∧ ty = 2 ∧ kd = 0)) (hz : ty = 2 → ∀ x st', st = x :: st' → xbool x = true) (hx : p.tables.exec = Jvm.exec) (hb : c.code = cc) (hd : decode cc pc = .ok (i, 1)) (hK : va_K D cl tys s) (hT : xty tys tA) (h : xh_ast ty kd pc lv st w k n = some r) (hr : XRs p l e R s m args below meth c Q cc nL D cl tA A as0 ex ret r) : XSat p l e R s m args below meth c Q nL D cl tA A as0 ex (pc, lv, st, w, k, n) := by
  match st, h with
  | x :: .inl z :: .inr (.inr q) :: st, h =>
    unfold xh_ast at h
    dsimp only at h
    by_cases hq1 : q.1 = 1 ∧ xkd x = kd
    · rw [if_pos hq1] at h
      cases hc : w[q.2]? with
      | none => rw [hc] at h; cases h
      | some o =>
        rw [hc] at h
        match o, hc, h with
        | .inl _, _, h => cases h
        | .inr (t, es), hc, h =>
          dsimp only at h
          by_cases ht : ty = t
          · rw [if_pos ht] at h
            subst ht
            cases hw : xwrite es z x with
            | none => rw [hw] at h; cases h
            | some es' =>
              rw [hw] at h
              cases h
              intro H locs ls vs lw ws ⟨h1, h2, h3, h4, h5, h6, h7, h8⟩
              obtain ⟨v, _, rfl, hv, _, _, rfl, ⟨j, rfl, j1, j2⟩, u, vs', rfl, hq, h2⟩ := h2
              obtain ⟨hin, hlen, hel⟩ := xwrite_in (as := xad ws) (ex := ex) hw j1 j2
              rcases hq with ⟨h0, _⟩ | ⟨a, rfl, ⟨_, ha⟩ | ⟨h0, _⟩⟩
              · omega
              · obtain ⟨e0, g1, X, rfl, g2, g3, g4⟩ := h3.at hc ha
                obtain ⟨N, F⟩ := X
                have g2 : N = es.length := g2
                subst g2
                have go : ∀ (X' : vp_A) (H1 : Heap) (locs1 : List Loc), X'.1 = es.length → xa_k ty X' → (xa_get X' j.toNatClampNeg = v) → (∀ j', j' ≠ j.toNatClampNeg → xa_get X' j' = xa_get (es.length, F) j') → va_P D cl (ws.set q.2 (a, .inl (tA ty, X'))) H1 → va_D A (ws.set q.2 (a, .inl (tA ty, X'))) → va_S A s.heap H1 locs1 → W p l e R s m args below meth c H1 locs1 k n Q (F0 m (pc + 1) ls vs') := by
                  intro X' H1 locs1 e1 e2 e3 e4 hP hD hS
                  refine hr H1 locs1 ls vs' lw (ws.set q.2 (a, .inl (tA ty, X'))) ⟨by rw [xad_set g1]; exact h1, by rw [xad_set g1]; exact h2, h3.set g1 ⟨X', rfl, by rw [e1, hlen], e2, fun j' y hy => ?_⟩, hP, hD, hS, h7, by rw [xad_set g1]; exact h8⟩
                  obtain ⟨b1, b2⟩ := hel j' y hy
                  by_cases hj : j' = j.toNatClampNeg
                  · rw [hj, e3]
                    exact b1 hj _ hv
                  · rw [e4 j' hj]
                    obtain ⟨y0, c1, c2⟩ := b2 hj
                    exact c2 _ (g4 j' y0 c1)
                have hkv := hv.vk
                rw [hq1.2] at hkv
                match F, g1, g3, go with
                | .inl f, g1, g3, go =>
                  have g3 : ty = 0 ∨ ty = 2 := g3
                  rcases hi with ⟨rfl, rfl, rfl⟩ | ⟨rfl, rfl, rfl⟩ | ⟨rfl, rfl, rfl⟩
                  · obtain ⟨y, rfl⟩ := hkv
                    refine va_iast hx hb hK h4 h5 h6 q.2 0 g1 hT.1 hin hd (fun H1 locs1 hP hD hS => go (es.length, .inl (upd f j.toNatClampNeg y)) H1 locs1 rfl g3 ?_ ?_ hP hD hS)
                    · show Value.int (upd f j.toNatClampNeg y j.toNatClampNeg) = _
                      rw [pk_us]
                    · intro j' hj
                      show Value.int (upd f j.toNatClampNeg y j') = _
                      rw [pk_un hj]
                      rfl
                  · omega
                  · obtain ⟨y, rfl⟩ := hkv
                    have hy01 := x_bool01 (hz rfl _ _ rfl) hv
                    have hy : vp_nar .boolean y = y := by
                      rcases hy01 with rfl | rfl <;> decide +kernel
                    refine va_zast hx hb hK h4 h5 h6 q.2 2 g1 hT.2.2.1 hin hd (fun H1 locs1 hP hD hS => go (es.length, .inl (upd f j.toNatClampNeg (vp_nar .boolean y))) H1 locs1 rfl g3 ?_ ?_ hP hD hS)
                    · show Value.int (upd f j.toNatClampNeg (vp_nar .boolean y) j.toNatClampNeg) = _
                      rw [pk_us, hy]
                    · intro j' hj
                      show Value.int (upd f j.toNatClampNeg (vp_nar .boolean y) j') = _
                      rw [pk_un hj]
                      rfl
                | .inr (.inl f), g1, g3, go =>
                  have g3 : ty = 1 := g3
                  rcases hi with ⟨rfl, rfl, rfl⟩ | ⟨rfl, rfl, rfl⟩ | ⟨rfl, rfl, rfl⟩
                  · omega
                  · obtain ⟨y, rfl⟩ := hkv
                    refine va_last hx hb hK h4 h5 h6 q.2 1 g1 hT.2.1 hin hd (fun H1 locs1 hP hD hS => go (es.length, .inr (.inl (vp_updL f j.toNatClampNeg y))) H1 locs1 rfl g3 ?_ ?_ hP hD hS)
                    · show Value.long (vp_updL f j.toNatClampNeg y j.toNatClampNeg) = _
                      rw [pk_uLs]
                    · intro j' hj
                      show Value.long (vp_updL f j.toNatClampNeg y j') = _
                      rw [pk_uLn hj]
                      rfl
                  · omega
                | .inr (.inr (.inl f)), _, g3, _ => exact absurd g3 id
                | .inr (.inr (.inr (.inl f))), _, g3, _ => exact absurd g3 id
                | .inr (.inr (.inr (.inr f))), _, g3, _ =>
                  have g3 : 3 ≤ ty ∧ ty < 7 := g3
                  rcases hi with ⟨_, h, _⟩ | ⟨_, h, _⟩ | ⟨_, h, _⟩ <;> omega
              · omega
          · rw [if_neg ht] at h
            cases h
    · rw [if_neg hq1] at h
      cases h
theorem xo_aast {TC : Nat → Option Nat} (hTC : ∀ t b, TC t = some b → 3 ≤ t ∧ t < 7 ∧ ∃ o : vw_C, cl[b]? = some o ∧ tys[t]? = some (tA t, .object o.1)) (hx : p.tables.exec = Jvm.exec) (hb : c.code = cc) (hd : decode cc pc = .ok (.aastore, 1)) (hK : va_K D cl tys s) (h : xh_aast TC pc lv st w k n = some r) (hr : XRs p l e R s m args below meth c Q cc nL D cl tA A as0 ex ret r) : XSat p l e R s m args below meth c Q nL D cl tA A as0 ex (pc, lv, st, w, k, n) := by
  match st, h with
  | .inr (.inr v) :: .inl z :: .inr (.inr q) :: st, h =>
    unfold xh_aast at h
    dsimp only at h
    by_cases hq1 : q.1 = 1 ∧ v.1 = 1 ∧ z.1 = z.2
    · rw [if_pos hq1] at h
      cases hc : w[q.2]? with
      | none => rw [hc] at h; cases h
      | some o =>
        cases hcv : w[v.2]? with
        | none =>
          rw [hc, hcv] at h
          match o, h with
          | .inl _, h => cases h
          | .inr _, h => cases h
        | some ov =>
          rw [hc, hcv] at h
          match o, ov, hc, hcv, h with
          | .inl _, _, _, _, h => cases h
          | .inr (t, es), .inr _, _, _, h => cases h
          | .inr (t, es), .inl (b, fb), hc, hcv, h =>
            dsimp only at h
            by_cases ht : TC t = some b
            · rw [if_pos ht] at h
              obtain ⟨t3, t7, o, ho, hty⟩ := hTC t b ht
              cases hw : xwrite es z (.inr (.inr v)) with
              | none => rw [hw] at h; cases h
              | some es' =>
                rw [hw] at h
                cases h
                intro H locs ls vs lw ws ⟨h1, h2, h3, h4, h5, h6, h7, h8⟩
                obtain ⟨u, _, rfl, hv, _, _, rfl, ⟨j, rfl, j1, j2⟩, uq, vs', rfl, hq, h2⟩ := h2
                obtain ⟨hin, hlen, hel⟩ := xwrite_in (as := xad ws) (ex := ex) hw j1 j2
                have hvv : xv_in (xad ws) ex (.inr (.inr v)) u := hv
                rcases hq with ⟨h0, _⟩ | ⟨a, rfl, ⟨_, ha⟩ | ⟨h0, _⟩⟩
                · omega
                · rcases hv with ⟨h0, _⟩ | ⟨av, rfl, ⟨_, hav⟩ | ⟨h0, _⟩⟩
                  · omega
                  · obtain ⟨e0, g1, X, rfl, g2, g3, g4⟩ := h3.at hc ha
                    obtain ⟨ev, k1, vsv, rfl, k2⟩ := h3.at hcv hav
                    obtain ⟨N, F⟩ := X
                    have g2 : N = es.length := g2
                    subst g2
                    match F, g1, g3, g4 with
                    | .inl f, _, g3, _ =>
                      have g3 : t = 0 ∨ t = 2 := g3
                      omega
                    | .inr (.inl f), _, g3, _ =>
                      have g3 : t = 1 := g3
                      omega
                    | .inr (.inr (.inl f)), _, g3, _ => exact absurd g3 id
                    | .inr (.inr (.inr (.inl f))), _, g3, _ => exact absurd g3 id
                    | .inr (.inr (.inr (.inr f))), g1, g3, g4 =>
                      refine va_astq hx hb hK h4 h5 h6 q.2 t v.2 b g1 hty k1 ho hin hd (fun H1 locs1 hP hD hS => ?_)
                      refine hr H1 locs1 ls vs' lw _ ⟨by rw [xad_set g1]; exact h1, by rw [xad_set g1]; exact h2, h3.set g1 ⟨(es.length, .inr (.inr (.inr (.inr (va_up f j.toNatClampNeg (some av)))))), rfl, by rw [hlen], g3, fun j' y hy => ?_⟩, hP, hD, hS, h7, by rw [xad_set g1]; exact h8⟩
                      obtain ⟨b1, b2⟩ := hel j' y hy
                      by_cases hj : j' = j.toNatClampNeg
                      · have e3 : xa_get (es.length, .inr (.inr (.inr (.inr (va_up f j.toNatClampNeg (some av)))))) j' = .ref av := by
                          show va_rf (va_up f j.toNatClampNeg (some av) j') = _
                          rw [hj]
                          simp [va_up, va_rf]
                        rw [e3]
                        exact b1 hj _ hvv
                      · obtain ⟨y0, c1, c2⟩ := b2 hj
                        have e3 : xa_get (es.length, .inr (.inr (.inr (.inr (va_up f j.toNatClampNeg (some av)))))) j' = xa_get (es.length, .inr (.inr (.inr (.inr f)))) j' := by
                          show va_rf (va_up f j.toNatClampNeg (some av) j') = va_rf (f j')
                          simp [va_up, hj]
                        rw [e3]
                        exact c2 _ (g4 j' y0 c1)
                  · omega
                · omega
            · rw [if_neg ht] at h
              cases h
    · rw [if_neg hq1] at h
      cases h
end XO
