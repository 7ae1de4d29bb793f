/-! ===== roads with calls by contract and with bounds split ===== -/
theorem xk_at {as ex : List Nat} : ∀ {xs : XL} {l : List (Nat × Value)} {j i : Nat} {q : Int × Int}, xk_in as ex xs l → xs[j]? = some (i, .inl q) → ∃ x : Int32, q.1 ≤ x.toInt ∧ x.toInt ≤ q.2 ∧ xk_in as ex (xs.set j (i, xi x.toInt)) l
  | [], _, _, _, _, _, hj => by simp at hj
  | y :: xs, _, j, i, q, ⟨v, l', e, h, k⟩, hj => by
    cases j with
    | zero =>
      rw [List.getElem?_cons_zero] at hj
      cases hj
      obtain ⟨x, e1, h1, h2⟩ := h
      exact ⟨x, h1, h2, v, l', e, ⟨x, e1, Int.le_refl _, Int.le_refl _⟩, k⟩
    | succ j =>
      rw [List.getElem?_cons_succ] at hj
      obtain ⟨x, h1, h2, h3⟩ := xk_at k hj
      exact ⟨x, h1, h2, v, l', e, h, h3⟩
theorem xsat_split {p : Program} {l : Launch} {e : Env} {R : Room} {s : State} {m : MethodId} {args : Array Value} {below : List Frame} {meth : Method} {c : Code} {Q : State → Prop} {nL : Nat} {D : va_G} {cl : List vw_C} {tA : Nat → ClassId} {A : Nat → Prop} {as0 ex : List Nat} {pc : Nat} {lv : XL} {st : List XV} {w : XW} {k n j i : Nat} {q : Int × Int} (hj : lv[j]? = some (i, .inl q)) (hs : ∀ z : Int, q.1 ≤ z → z ≤ q.2 → XSat p l e R s m args below meth c Q nL D cl tA A as0 ex (pc, lv.set j (i, xi z), st, w, k, n)) : XSat p l e R s m args below meth c Q nL D cl tA A as0 ex (pc, lv, st, w, k, n) := by
  intro H locs ls vs lw ws ⟨h1, h2, h3, h4, h5, h6, h7, h8⟩
  obtain ⟨x, x1, x2, h1'⟩ := xk_at h1 hj
  exact hs x.toInt x1 x2 H locs ls vs lw ws ⟨h1', h2, h3, h4, h5, h6, h7, h8⟩
/-- a step over a call by the callee's contract -/
def XJ (l : Launch) (D : va_G) (cl : List vw_C) (tys : List (ClassId × FieldType)) (tA : Nat → ClassId) (ex : List Nat) (exc : List (List XV)) (SV : List (String × String × String × Nat)) (NW : List (String × Nat × MethodName × String)) (NF : List (String × Nat × String × String × String × String)) (Ts : List Cond) (MT : Nat → Option XM) (FT : Nat → Nat → Option FieldType) (FD : Nat → Option (List XV)) (TY : Nat → Option FieldType) (TC : Nat → Option Nat) (M : XM) (S S' : XS) : Prop := ∃ (i : Instr) (a d : Nat) (z : Int) (N : XM) (ro : Option XV) (w' : XW), xfetch (xm_t M) S.1 = some (i, a, d, z) ∧ MT a = some N ∧ XMet l D cl tys tA ex exc SV NW NF Ts N (S.2.2.1.take d).reverse S.2.2.2.1 ro w' ∧ ∀ cf : XF, cf a (S.2.2.1.take d).reverse S.2.2.2.1 = some (ro, w') → xins cf MT FT FD TY TC exc M i a d z S.1 S.2.1 S.2.2.1 S.2.2.2.1 S.2.2.2.2.1 S.2.2.2.2.2 = some (.inl S')
def xroadJ (f : XS → Option XR) (J : XS → XS → Prop) (S : XS) (q : Option XV × XW × Nat × Nat) : Prop := ∀ P : XR → Prop, (∀ S r, f S = some r → P r → P (.inl S)) → (∀ S S', xsle S S' = true → P (.inl S') → P (.inl S)) → (∀ S S', J S S' → P (.inl S') → P (.inl S)) → (∀ (pc : Nat) (lv : XL) (st : List XV) (w : XW) (k n j i : Nat) (q : Int × Int), lv[j]? = some (i, .inl q) → (∀ z : Int, q.1 ≤ z → z ≤ q.2 → P (.inl (pc, lv.set j (i, xi z), st, w, k, n))) → P (.inl (pc, lv, st, w, k, n))) → P (.inr q) → P (.inl S)
theorem xroadJ.run {f : XS → Option XR} {J : XS → XS → Prop} {fu : Nat} {S : XS} {q : Option XV × XW × Nat × Nat} (h : xrun f fu S = some (.inr q)) : xroadJ f J S q := fun _ h1 _ _ _ h3 => xrun_ok h1 fu S _ h h3
theorem xroadJ.steps {f : XS → Option XR} {J : XS → XS → Prop} {n : Nat} {S S' : XS} {q : Option XV × XW × Nat × Nat} (h : xsteps f n S = some S') (k : xroadJ f J S' q) : xroadJ f J S q := fun P h1 h2 h3 h4 h5 => xsteps_ok h1 n S S' h (k P h1 h2 h3 h4 h5)
theorem xroadJ.wide {f : XS → Option XR} {J : XS → XS → Prop} {S S' : XS} {q : Option XV × XW × Nat × Nat} (h : xsle S S' = true) (k : xroadJ f J S' q) : xroadJ f J S q := fun P h1 h2 h3 h4 h5 => h2 S S' h (k P h1 h2 h3 h4 h5)
theorem xroadJ.jump {f : XS → Option XR} {J : XS → XS → Prop} {S S' : XS} {q : Option XV × XW × Nat × Nat} (h : J S S') (k : xroadJ f J S' q) : xroadJ f J S q := fun P h1 h2 h3 h4 h5 => h3 S S' h (k P h1 h2 h3 h4 h5)
theorem xroadJ.split {f : XS → Option XR} {J : XS → XS → Prop} {pc : Nat} {lv : XL} {st : List XV} {w : XW} {k n j i : Nat} {q0 : Int × Int} {q : Option XV × XW × Nat × Nat} (hj : lv[j]? = some (i, .inl q0)) (hk : ∀ z : Int, q0.1 ≤ z → z ≤ q0.2 → xroadJ f J (pc, lv.set j (i, xi z), st, w, k, n) q) : xroadJ f J (pc, lv, st, w, k, n) q := fun P h1 h2 h3 h4 h5 => h4 pc lv st w k n j i q0 hj (fun z z1 z2 => hk z z1 z2 P h1 h2 h3 h4 h5)
set_option maxHeartbeats 4000000 in
/-- a method's contract out of a road with calls and splits -/
theorem xmet_ofJ {l : Launch} {D : va_G} {cl : List vw_C} {tys : List (ClassId × FieldType)} {tA : Nat → ClassId} {ex : List Nat} {exc : List (List XV)} {Ts : List Cond} {SV : List (String × String × String × Nat)} {NW : List (String × Nat × MethodName × String)} {NF : List (String × Nat × String × String × String × String)} {MT : Nat → Option XM} {FT : Nat → Nat → Option FieldType} {FD : Nat → Option (List XV)} {TY : Nat → Option FieldType} {TC : Nat → Option Nat} {cf : XF} (hG : ∀ w ∈ Ts, (w.onTables && w.keeps) = true ∨ ∃ ty, w = .arrayClass ty) (hT : xty tys tA) (hTY : ∀ t C, 3 ≤ t → t < 7 → TY t = some (.object C) → tys[t]? = some (tA t, .object C)) (hTC : ∀ t b, TC t = some b → 3 ≤ t ∧ t < 7 ∧ ∃ o : vw_C, cl[b]? = some o ∧ tys[t]? = some (tA t, .object o.1))
    (hok : ∀ j N, MT j = some N → plainName (xm_y N).cls = true ∧ ∀ pc q, xfetch (xm_t N) pc = some q → xdec (xm_c N) pc q.1 ∧ xaux cl Ts MT FT FD TY SV NW NF N pc q.2.1 q.2.2.1 q.2.2.2 q.1)
    (hcf : ∀ (j : Nat) (N : XM) (as : List XV) (w : XW) (ro : Option XV) (w' : XW), MT j = some N → cf j as w = some (ro, w') → XMet l D cl tys tA ex exc SV NW NF Ts N as w ro w')
    {j : Nat} {N : XM} (hN : MT j = some N) {as : List XV} {w : XW} {ro : Option XV} {w2 w' : XW} {k2 n2 : Nat} (hc : (as.map xcat).sum ≤ xm_l N) (hcap : k2 ≤ xm_k N ∧ n2 ≤ xm_n N) (hw2 : xwle w2 w' = true) (hrun : xroadJ (xstep cf MT FT FD TY TC exc N) (XJ l D cl tys tA ex exc SV NW NF Ts MT FT FD TY TC N) (0, xk_args 0 as, [], w, 0, 0) (ro, w2, k2, n2)) : XMet l D cl tys tA ex exc SV NW NF Ts N as w ro w' := by
  intro vals ws sz hvals hws
  refine Met.ofW (cc := xm_c N) (maxL := xm_l N) (ret := xm_r N) (hok j N hN).1 rfl ?_
  intro p e s m args below meth c s₁ B hml hv
  obtain ⟨rfl, hsz, hP, hD0, hE⟩ := hv
  have hx := B.exec
  have hb := B.bytes
  have hr := B.returns
  have hts0 := atoms_spec (ws := xws Ts N) B.pre
  have hts : ∀ w ∈ Ts, w.before vals.toArray s = true := fun w h => hts0 w (List.mem_cons_of_mem _ h)
  have hown : s.vm.findClass (xm_y N).cls = some m.cls := findClass_of_methodNamed B.named
  have hname : (xm_y N).name = "<init>" → meth.name = "<init>" := fun h => (name_of_methodNamed B.named B.method).1.trans h
  have hlocks := B.notSynchronized
  subst hsz
  have hD := hD0.self (sz := s.heap.size)
  have hA : ∀ q : Nat, s.heap.size ≤ q → va_A ws s.heap.size q := fun q h => Or.inr h
  have hl := lv_entry vals (n := xm_l N) (by rw [x_lgsl, hvals.cats]; exact hc)
  rw [lg_entry_eq]
  have key := hrun (XRs p l e (headSpec (xws Ts N) (xrm N)).room s m vals.toArray below meth c (MQ below (XQ D cl tA ex ro w' ws s.heap.size) vals.toArray s (xm_k N) (xm_n N) (va_A ws s.heap.size)) (xm_c N) (xm_l N) D cl tA (va_A ws s.heap.size) (xad ws) ex (xm_r N)) (fun S r hS hR => by
    unfold xstep at hS
    cases hf : xfetch (xm_t N) S.1 with
    | none => rw [hf] at hS; cases hS
    | some q =>
      rw [hf] at hS
      obtain ⟨od, oa⟩ := (hok j N hN).2 S.1 q hf
      exact xins_ok hx hb hml hown hname hts hG hE hA rfl rfl rfl rfl hT hTY hTC hcf od oa hS hR) (fun S S' h hS => xsat_mono h hS) (fun S S' h hS => by
    obtain ⟨i0, a0, d0, z0, N0, ro0, w0, f1, f2, f3, f4⟩ := h
    obtain ⟨od, oa⟩ := (hok j N hN).2 S.1 _ f1
    obtain ⟨cf2, g0, g1⟩ : ∃ cf2 : XF, cf2 a0 (S.2.2.1.take d0).reverse S.2.2.2.1 = some (ro0, w0) ∧ ∀ (j : Nat) (as : List XV) (w1 : XW) (q : Option XV × XW), cf2 j as w1 = some q → j = a0 ∧ as = (S.2.2.1.take d0).reverse ∧ w1 = S.2.2.2.1 ∧ q = (ro0, w0) := by
      refine ⟨fun j as w1 => @ite (Option (Option XV × XW)) (j = a0 ∧ as = (S.2.2.1.take d0).reverse ∧ w1 = S.2.2.2.1) (Classical.propDecidable _) (some (ro0, w0)) none, if_pos ⟨rfl, rfl, rfl⟩, fun j as w1 q h => ?_⟩
      by_cases hq : j = a0 ∧ as = (S.2.2.1.take d0).reverse ∧ w1 = S.2.2.2.1
      · have h : @ite (Option (Option XV × XW)) (j = a0 ∧ as = (S.2.2.1.take d0).reverse ∧ w1 = S.2.2.2.1) (Classical.propDecidable _) (some (ro0, w0)) none = some q := h
        rw [if_pos hq] at h
        exact ⟨hq.1, hq.2.1, hq.2.2, (Option.some.inj h).symm⟩
      · have h : @ite (Option (Option XV × XW)) (j = a0 ∧ as = (S.2.2.1.take d0).reverse ∧ w1 = S.2.2.2.1) (Classical.propDecidable _) (some (ro0, w0)) none = some q := h
        rw [if_neg hq] at h
        cases h
    exact xins_ok (cf := cf2) hx hb hml hown hname hts hG hE hA rfl rfl rfl rfl hT hTY hTC (fun j' N' as' w1 ro' w2' hN' h => by
      obtain ⟨rfl, rfl, rfl, e1⟩ := g1 j' as' w1 _ h
      cases e1
      have e0 : N' = N0 := Option.some.inj (hN'.symm.trans f2)
      subst e0
      exact f3) od oa (f4 cf2 g0) hS) (fun pc lv st w k n j i q hj hs => xsat_split hj hs) ?_
  · exact key s.heap [] _ [] (lv_args 0 vals) ws ⟨xk_in.args 0 hvals, rfl, hws, hP, hD, va_S.rf, hl, [], by simp⟩
  · intro pc i H locs ls rv ws' hd hrt hrk ho hz hw hP hD hS htl
    refine W.widen hcap.1 hcap.2 ?_
    have fin : ∀ (o : Option Value), o = rv → ∀ t : State, t.heap = H → s.WarmedH t.vm → XQ D cl tA ex ro w' ws s.heap.size vals.toArray s (.returned o) t := fun o e0 t ht _ => ⟨⟨rv, ws', by rw [e0], ho, by rw [ht]; exact hP, hD, xwle_in hw2 hw, htl⟩, hS.F ht⟩
    cases i with
    | ireturn =>
      obtain ⟨x, rfl⟩ := hrk
      rcases hrt with h0 | h0
      · exact W.iret (v := x) hx hb (hr.trans h0) (fin _ rfl) hS.2.2 hd
      · exact W.zret (v := x) (ty := .boolean) hx hb (hr.trans h0) (by rcases hz (by rw [h0]; rfl) x rfl with rfl | rfl <;> decide +kernel) (fin _ rfl) hS.2.2 hd
    | lreturn =>
      obtain ⟨x, rfl⟩ := hrk
      exact W.lret (v := x) hx hb (hr.trans hrt) (fin _ rfl) hS.2.2 hd
    | areturn =>
      obtain ⟨C, hrt⟩ := hrt
      rcases hrk with rfl | ⟨x, rfl⟩
      · exact W.aret (v := .null) hx hb (hr.trans hrt) (Or.inl ⟨C, rfl⟩) (Or.inl rfl) (fin _ rfl) hS.2.2 hd
      · exact W.aret (v := .ref x) hx hb (hr.trans hrt) (Or.inl ⟨C, rfl⟩) (Or.inr ⟨x, rfl⟩) (fin _ rfl) hS.2.2 hd
    | return_ =>
      have hrk : rv = none := hrk
      subst hrk
      exact W.vret hx hb (hr.trans hrt) (fin _ rfl) hS.2.2 hd
    | _ => exact absurd hrk id
