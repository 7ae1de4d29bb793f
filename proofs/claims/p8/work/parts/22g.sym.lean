/-! ===== what a predicate on configurations is closed under; contracts out of that ===== -/
def XCl (f : XS → Option XR) (J : XS → XS → Prop) (P : XR → Prop) : Prop := (∀ S r, f S = some r → P r → P (.inl S)) ∧ (∀ S S', xsle S S' = true → P (.inl S') → P (.inl S)) ∧ (∀ S S', J S S' → P (.inl S') → P (.inl S)) ∧ (∀ (pc : Nat) (lv lv' : XL) (st : List XV) (w : XW) (k n : Nat), (∀ q ∈ lv', q ∈ lv) → P (.inl (pc, lv', st, w, k, n)) → P (.inl (pc, lv, st, w, k, n)))
theorem xk_mem {as ex : List Nat} {q : Nat × XV} : ∀ {lv : XL} {l : List (Nat × Value)}, xk_in as ex lv l → q ∈ lv → ∃ v, (q.1, v) ∈ l ∧ xv_in as ex q.2 v
  | [], _, _, h => by cases h
  | y :: xs, _, ⟨v, l', e, h1, h2⟩, h => by
    subst e
    rcases List.mem_cons.mp h with h | h
    · subst h
      exact ⟨v, List.mem_cons_self, h1⟩
    · obtain ⟨u, a1, a2⟩ := xk_mem h2 h
      exact ⟨u, List.mem_cons_of_mem _ a1, a2⟩
theorem xk_sub {as ex : List Nat} {lv : XL} {l : List (Nat × Value)} (h : xk_in as ex lv l) : ∀ {lv' : XL}, (∀ q ∈ lv', q ∈ lv) → ∃ l', xk_in as ex lv' l' ∧ ∀ p ∈ l', p ∈ l
  | [], _ => ⟨[], rfl, fun _ h => by cases h⟩
  | q :: lv', hs => by
    obtain ⟨v, a1, a2⟩ := xk_mem h (hs q List.mem_cons_self)
    obtain ⟨l', b1, b2⟩ := xk_sub h (lv' := lv') (fun p hp => hs p (List.mem_cons_of_mem _ hp))
    exact ⟨(q.1, v) :: l', ⟨v, l', rfl, a2, b1⟩, fun p hp => by
      rcases List.mem_cons.mp hp with h | h
      · subst h
        exact a1
      · exact b2 p h⟩
theorem xsat_perm {p : Program} {l : Launch} {e : Env} {R : Room} {s : State} {m : MethodId} {args : Array Value} {below : List Frame} {meth : Method} {c : Code} {Q : State → Prop} {nL : Nat} {D : va_G} {cl : List vw_C} {tA : Nat → ClassId} {A : Nat → Prop} {as0 ex : List Nat} {pc : Nat} {lv lv' : XL} {st : List XV} {w : XW} {k n : Nat} (hq : ∀ q ∈ lv', q ∈ lv) (hs : XSat p l e R s m args below meth c Q nL D cl tA A as0 ex (pc, lv', st, w, k, n)) : XSat p l e R s m args below meth c Q nL D cl tA A as0 ex (pc, lv, st, w, k, n) := by
  intro H locs ls vs lw ws ⟨h1, h2, h3, h4, h5, h6, h7, h8⟩
  obtain ⟨lw', a1, a2⟩ := xk_sub h1 hq
  exact hs H locs ls vs lw' ws ⟨a1, h2, h3, h4, h5, h6, ⟨h7.1, h7.2.1, fun q hq => h7.2.2 q (a2 q hq)⟩, h8⟩
set_option maxHeartbeats 4000000 in
/-- a method's contract out of what every closed predicate says -/
theorem xmet_ofK {l : Launch} {D : va_G} {cl : List vw_C} {tys : List (ClassId × FieldType)} {tA : Nat → ClassId} {ex : List Nat} {exc : List (List XV)} {Ts : List Cond} {SV : List (String × String × String × Nat)} {NW : List (String × Nat × MethodName × String)} {NF : List (String × Nat × String × String × String × String)} {MT : Nat → Option XM} {FT : Nat → Nat → Option FieldType} {FD : Nat → Option (List XV)} {TY : Nat → Option FieldType} {TC : Nat → Option Nat} {cf : XF} (hG : ∀ w ∈ Ts, (w.onTables && w.keeps) = true ∨ ∃ ty, w = .arrayClass ty) (hT : xty tys tA) (hTY : ∀ t C, 3 ≤ t → t < 7 → TY t = some (.object C) → tys[t]? = some (tA t, .object C)) (hTC : ∀ t b, TC t = some b → 3 ≤ t ∧ t < 7 ∧ ∃ o : vw_C, cl[b]? = some o ∧ tys[t]? = some (tA t, .object o.1))
    (hok : ∀ j N, MT j = some N → plainName (xm_y N).cls = true ∧ ∀ pc q, xfetch (xm_t N) pc = some q → xdec (xm_c N) pc q.1 ∧ xaux cl Ts MT FT FD TY SV NW NF N pc q.2.1 q.2.2.1 q.2.2.2 q.1)
    (hcf : ∀ (j : Nat) (N : XM) (as : List XV) (w : XW) (ro : Option XV) (w' : XW), MT j = some N → cf j as w = some (ro, w') → XMet l D cl tys tA ex exc SV NW NF Ts N as w ro w')
    {j : Nat} {N : XM} (hN : MT j = some N) {as : List XV} {w : XW} {ro : Option XV} {w2 w' : XW} {k2 n2 : Nat} (hc : (as.map xcat).sum ≤ xm_l N) (hcap : k2 ≤ xm_k N ∧ n2 ≤ xm_n N) (hw2 : xwle w2 w' = true ∨ w2 = w') (hrun : ∀ P : XR → Prop, XCl (xstep cf MT FT FD TY TC exc N) (XJ l D cl tys tA ex exc SV NW NF Ts MT FT FD TY TC N) P → P (.inr (ro, w2, k2, n2)) → P (.inl (0, xk_args 0 as, [], w, 0, 0))) : XMet l D cl tys tA ex exc SV NW NF Ts N as w ro w' := by
  intro vals ws sz hvals hws
  refine Met.ofW (cc := xm_c N) (maxL := xm_l N) (ret := xm_r N) (hok j N hN).1 rfl ?_
  intro p e s m args below meth c s₁ B hml hv
  obtain ⟨rfl, hsz, hP, hD0, hE⟩ := hv
  have hx := B.exec
  have hb := B.bytes
  have hr := B.returns
  have hts0 := atoms_spec (ws := xws Ts N) B.pre
  have hts : ∀ w ∈ Ts, w.before vals.toArray s = true := fun w h => hts0 w (List.mem_cons_of_mem _ h)
  have hown : s.vm.findClass (xm_y N).cls = some m.cls := findClass_of_methodNamed B.named
  have hname : (xm_y N).name = "<init>" → meth.name = "<init>" := fun h => (name_of_methodNamed B.named B.method).1.trans h
  have hlocks := B.notSynchronized
  subst hsz
  have hD := hD0.self (sz := s.heap.size)
  have hA : ∀ q : Nat, s.heap.size ≤ q → va_A ws s.heap.size q := fun q h => Or.inr h
  have hl := lv_entry vals (n := xm_l N) (by rw [x_lgsl, hvals.cats]; exact hc)
  rw [lg_entry_eq]
  have key := hrun (XRs p l e (headSpec (xws Ts N) (xrm N)).room s m vals.toArray below meth c (MQ below (XQ D cl tA ex ro w' ws s.heap.size) vals.toArray s (xm_k N) (xm_n N) (va_A ws s.heap.size)) (xm_c N) (xm_l N) D cl tA (va_A ws s.heap.size) (xad ws) ex (xm_r N)) ⟨fun S r hS hR => by
    unfold xstep at hS
    cases hf : xfetch (xm_t N) S.1 with
    | none => rw [hf] at hS; cases hS
    | some q =>
      rw [hf] at hS
      obtain ⟨od, oa⟩ := (hok j N hN).2 S.1 q hf
      exact xins_ok hx hb hml hown hname hts hG hE hA rfl rfl rfl rfl hT hTY hTC hcf od oa hS hR, fun S S' h hS => xsat_mono h hS, fun S S' h hS => by
    obtain ⟨i0, a0, d0, z0, N0, ro0, w0, f1, f2, f3, f4⟩ := h
    obtain ⟨od, oa⟩ := (hok j N hN).2 S.1 _ f1
    obtain ⟨cf2, g0, g1⟩ : ∃ cf2 : XF, cf2 a0 (S.2.2.1.take d0).reverse S.2.2.2.1 = some (ro0, w0) ∧ ∀ (j : Nat) (as : List XV) (w1 : XW) (q : Option XV × XW), cf2 j as w1 = some q → j = a0 ∧ as = (S.2.2.1.take d0).reverse ∧ w1 = S.2.2.2.1 ∧ q = (ro0, w0) := by
      refine ⟨fun j as w1 => @ite (Option (Option XV × XW)) (j = a0 ∧ as = (S.2.2.1.take d0).reverse ∧ w1 = S.2.2.2.1) (Classical.propDecidable _) (some (ro0, w0)) none, if_pos ⟨rfl, rfl, rfl⟩, fun j as w1 q h => ?_⟩
      by_cases hq : j = a0 ∧ as = (S.2.2.1.take d0).reverse ∧ w1 = S.2.2.2.1
      · have h : @ite (Option (Option XV × XW)) (j = a0 ∧ as = (S.2.2.1.take d0).reverse ∧ w1 = S.2.2.2.1) (Classical.propDecidable _) (some (ro0, w0)) none = some q := h
        rw [if_pos hq] at h
        exact ⟨hq.1, hq.2.1, hq.2.2, (Option.some.inj h).symm⟩
      · have h : @ite (Option (Option XV × XW)) (j = a0 ∧ as = (S.2.2.1.take d0).reverse ∧ w1 = S.2.2.2.1) (Classical.propDecidable _) (some (ro0, w0)) none = some q := h
        rw [if_neg hq] at h
        cases h
    exact xins_ok (cf := cf2) hx hb hml hown hname hts hG hE hA rfl rfl rfl rfl hT hTY hTC (fun j' N' as' w1 ro' w2' hN' h => by
      obtain ⟨rfl, rfl, rfl, e1⟩ := g1 j' as' w1 _ h
      cases e1
      have e0 : N' = N0 := Option.some.inj (hN'.symm.trans f2)
      subst e0
      exact f3) od oa (f4 cf2 g0) hS, fun pc lv lv' st w k n hq hs => xsat_perm hq hs⟩ ?_
  · exact key s.heap [] _ [] (lv_args 0 vals) ws ⟨xk_in.args 0 hvals, rfl, hws, hP, hD, va_S.rf, hl, [], by simp⟩
  · intro pc i H locs ls rv ws' hd hrt hrk ho hz hw hP hD hS htl
    refine W.widen hcap.1 hcap.2 ?_
    have hw3 : xw_in ex tA w' ws' := hw2.elim (fun h => xwle_in h hw) (fun h => h ▸ hw)
    have fin : ∀ (o : Option Value), o = rv → ∀ t : State, t.heap = H → s.WarmedH t.vm → XQ D cl tA ex ro w' ws s.heap.size vals.toArray s (.returned o) t := fun o e0 t ht _ => ⟨⟨rv, ws', by rw [e0], ho, by rw [ht]; exact hP, hD, hw3, htl⟩, hS.F ht⟩
    cases i with
    | ireturn =>
      obtain ⟨x, rfl⟩ := hrk
      rcases hrt with h0 | h0
      · exact W.iret (v := x) hx hb (hr.trans h0) (fin _ rfl) hS.2.2 hd
      · exact W.zret (v := x) (ty := .boolean) hx hb (hr.trans h0) (by rcases hz (by rw [h0]; rfl) x rfl with rfl | rfl <;> decide +kernel) (fin _ rfl) hS.2.2 hd
    | lreturn =>
      obtain ⟨x, rfl⟩ := hrk
      exact W.lret (v := x) hx hb (hr.trans hrt) (fin _ rfl) hS.2.2 hd
    | areturn =>
      obtain ⟨C, hrt⟩ := hrt
      rcases hrk with rfl | ⟨x, rfl⟩
      · exact W.aret (v := .null) hx hb (hr.trans hrt) (Or.inl ⟨C, rfl⟩) (Or.inl rfl) (fin _ rfl) hS.2.2 hd
      · exact W.aret (v := .ref x) hx hb (hr.trans hrt) (Or.inl ⟨C, rfl⟩) (Or.inr ⟨x, rfl⟩) (fin _ rfl) hS.2.2 hd
    | return_ =>
      have hrk : rv = none := hrk
      subst hrk
      exact W.vret hx hb (hr.trans hrt) (fin _ rfl) hS.2.2 hd
    | _ => exact absurd hrk id
section XG
variable {cf : XF} {MT : Nat → Option XM} {FT : Nat → Nat → Option FieldType} {FD : Nat → Option (List XV)} {TY : Nat → Option FieldType} {TC : Nat → Option Nat} {exc : List (List XV)} {M : XM} {J : XS → XS → Prop} {P : XR → Prop} {pc : Nat} {lv : XL} {st : List XV} {w : XW} {k n : Nat}
theorem XCl.go (hP : XCl (xstep cf MT FT FD TY TC exc M) J P) {q : XE} {r : XR} (hf : xfetch (xm_t M) pc = some q) (hi : xins cf MT FT FD TY TC exc M q.1 q.2.1 q.2.2.1 q.2.2.2 pc lv st w k n = some r) (hr : P r) : P (.inl (pc, lv, st, w, k, n)) := by
  refine hP.1 _ r ?_ hr
  unfold xstep
  dsimp only
  rw [hf]
  exact hi
theorem XCl.sub (hP : XCl (xstep cf MT FT FD TY TC exc M) J P) {lv' : XL} (h : ∀ q ∈ lv', q ∈ lv) (hr : P (.inl (pc, lv', st, w, k, n))) : P (.inl (pc, lv, st, w, k, n)) := hP.2.2.2 pc lv lv' st w k n h hr
theorem XCl.run {f : XS → Option XR} (hP : XCl f J P) {fu : Nat} {S : XS} {r : XR} (h : xrun f fu S = some r) (hr : P r) : P (.inl S) := xrun_ok hP.1 fu S r h hr
theorem XCl.steps {f : XS → Option XR} (hP : XCl f J P) {m : Nat} {S S' : XS} (h : xsteps f m S = some S') (hr : P (.inl S')) : P (.inl S) := xsteps_ok hP.1 m S S' h hr
theorem sx_get {i a b : Nat} {z : Int} {q : Nat} {fs : List XV} {v : XV} (hw : w[q]? = some (.inl (a, fs))) (hv : fs[b]? = some v) : xins cf MT FT FD TY TC exc M (.getfield i) a b z pc lv (.inr (.inr (1, q)) :: st) w k n = some (.inl (pc + 3, lv, v :: st, w, k, n)) := by
  simp only [xins, xh_get, hw, if_true, hv]
theorem sx_iald {a b : Nat} {z : Int} {q : Nat} {es : List XV} {i x : Int × Int} (hw : w[q]? = some (.inr (0, es))) (hv : xread es i = some (.inl x)) : xins cf MT FT FD TY TC exc M .iaload a b z pc lv (.inl i :: .inr (.inr (1, q)) :: st) w k n = some (.inl (pc + 1, lv, .inl x :: st, w, k, n)) := by
  simp only [xins, xh_ald, xarr, hw, if_true, hv, true_or, xkd]
theorem sx_bald {a b : Nat} {z : Int} {q : Nat} {es : List XV} {i x : Int × Int} (hw : w[q]? = some (.inr (2, es))) (hv : xread es i = some (.inl x)) : xins cf MT FT FD TY TC exc M .baload a b z pc lv (.inl i :: .inr (.inr (1, q)) :: st) w k n = some (.inl (pc + 1, lv, .inl x :: st, w, k, n)) := by
  simp only [xins, xh_ald, xarr, hw, if_true, hv, true_or, xkd]
theorem sx_lald {a b : Nat} {z : Int} {q : Nat} {es : List XV} {i : Int × Int} {x : Option Int} (hw : w[q]? = some (.inr (1, es))) (hv : xread es i = some (.inr (.inl x))) : xins cf MT FT FD TY TC exc M .laload a b z pc lv (.inl i :: .inr (.inr (1, q)) :: st) w k n = some (.inl (pc + 1, lv, .inr (.inl x) :: st, w, k, n)) := by
  simp only [xins, xh_ald, xarr, hw, if_true, hv, true_or, xkd]
theorem sx_iast {a b : Nat} {z : Int} {q : Nat} {es es' : List XV} {i x : Int × Int} (hw : w[q]? = some (.inr (0, es))) (hv : xwrite es i (.inl x) = some es') : xins cf MT FT FD TY TC exc M .iastore a b z pc lv (.inl x :: .inl i :: .inr (.inr (1, q)) :: st) w k n = some (.inl (pc + 1, lv, st, w.set q (.inr (0, es')), k, n)) := by
  simp only [xins, xh_ast, hw, if_true, hv, and_self, xkd]
theorem sx_iadd {a b : Nat} {z : Int} {x y : Int} (h : -2147483648 ≤ x + y ∧ x + y ≤ 2147483647) : xins cf MT FT FD TY TC exc M .iadd a b z pc lv (.inl (y, y) :: .inl (x, x) :: st) w k n = some (.inl (pc + 1, lv, .inl (x + y, x + y) :: st, w, k, n)) := by
  simp only [xins, xh_bin, xadd]
  rw [if_pos h]
theorem sx_iinc {j : Nat} {u : Int} {a b : Nat} {z : Int} {x : Int} (hg : xk_get lv j = some (.inl (x, x))) (hj : j < xm_l M) (h : -2147483648 ≤ x + z ∧ x + z ≤ 2147483647) : xins cf MT FT FD TY TC exc M (.iinc j u) a b z pc lv st w k n = some (.inl (pc + 3, xk_set1 lv j (.inl (x + z, x + z)), st, w, k, n)) := by
  show xh_iinc j (xm_l M) z pc lv _ w k n = _
  simp only [xh_iinc, hg, xadd]
  rw [if_pos hj, if_pos h]
theorem sx_icmp {c : ClassFile.Cond} {u : Int} {a b : Nat} {z : Int} {p q : Int × Int} {o : Bool} (h : xcmp c p q = some o) : xins cf MT FT FD TY TC exc M (.if_icmp c u) a b z pc lv (.inl q :: .inl p :: st) w k n = some (.inl (bif o then a else pc + 3, lv, st, w, k, n)) := by
  show xh_br (xcmp c p q) a pc lv st w k n = _
  rw [h]
  cases o <;> rfl
theorem sx_if {c : ClassFile.Cond} {u : Int} {a b : Nat} {z : Int} {p : Int × Int} {o : Bool} (h : xcmp c p (0, 0) = some o) : xins cf MT FT FD TY TC exc M (.ifCond c u) a b z pc lv (.inl p :: st) w k n = some (.inl (bif o then a else pc + 3, lv, st, w, k, n)) := by
  show xh_br (xcmp c p (0, 0)) a pc lv st w k n = _
  rw [h]
  cases o <;> rfl
end XG
theorem xlt_of {x y : Int} : xlt (x, x) (y, y) = some (decide (x < y)) := by
  unfold xlt
  by_cases h : x < y
  · simp [h]
  · simp [h, Int.not_lt.mp h]
theorem xeq_of {x y : Int} : xeq (x, x) (y, y) = some (decide (x = y)) := by
  unfold xeq
  by_cases h : x = y
  · simp [h]
  · have : x < y ∨ y < x := by omega
    simp [h, this]
theorem xge_of {x y : Int} : xcmp .ge (x, x) (y, y) = some (decide (y ≤ x)) := by
  show xno (xlt (x, x) (y, y)) = _
  rw [xlt_of]
  by_cases h : x < y
  · simp [h, xno, Int.not_le.mpr h]
  · simp [h, xno, Int.not_lt.mp h]
theorem xgt_of {x y : Int} : xcmp .gt (x, x) (y, y) = some (decide (y < x)) := xlt_of
theorem xcne_of {x y : Int} : xcmp .ne (x, x) (y, y) = some (decide (x ≠ y)) := by
  show xno (xeq (x, x) (y, y)) = _
  rw [xeq_of]
  by_cases h : x = y
  · simp [h, xno]
  · simp [h, xno]
theorem xceq_of {x y : Int} : xcmp .eq (x, x) (y, y) = some (decide (x = y)) := xeq_of
/-- an array of ints, by its places -/
def xtl (n : Nat) (f : Nat → Int) : List XV := (List.range n).map (fun i => xi (f i))
theorem xtl_len {n : Nat} {f : Nat → Int} : (xtl n f).length = n := by simp [xtl]
theorem xtl_at {n : Nat} {f : Nat → Int} {c : Nat} (h : c < n) : (xtl n f)[c]? = some (xi (f c)) := by
  unfold xtl
  rw [List.getElem?_map, List.getElem?_range h]
  rfl
theorem xtl_read {n : Nat} {f : Nat → Int} {c : Nat} (h : c < n) : xread (xtl n f) ((c : Int), (c : Int)) = some (.inl (f c, f c)) := by
  unfold xread
  rw [if_pos ⟨Int.natCast_nonneg c, by rw [xtl_len]; exact Int.ofNat_lt.mpr h⟩, if_pos rfl, Int.toNat_natCast, xtl_at h]
  rfl
def xup (f : Nat → Int) (d : Nat) (v : Int) : Nat → Int := fun i => if i = d then v else f i
theorem xtl_set {n : Nat} {f : Nat → Int} {d : Nat} {v : Int} : (xtl n f).set d (xi v) = xtl n (xup f d v) := by
  apply List.ext_getElem?
  intro i
  rw [List.getElem?_set]
  by_cases h : d = i
  · subst h
    rw [if_pos rfl, xtl_len]
    by_cases hd : d < n
    · rw [if_pos hd, xtl_at hd]
      simp [xup]
    · rw [if_neg hd]
      symm
      apply List.getElem?_eq_none
      rw [xtl_len]
      omega
  · rw [if_neg h]
    by_cases hd : i < n
    · rw [xtl_at hd, xtl_at hd]
      have : i ≠ d := fun e => h e.symm
      simp [xup, this]
    · rw [List.getElem?_eq_none (by rw [xtl_len]; omega), List.getElem?_eq_none (by rw [xtl_len]; omega)]
theorem xtl_write {n : Nat} {f : Nat → Int} {c : Nat} {v : Int} (h : c < n) : xwrite (xtl n f) ((c : Int), (c : Int)) (.inl (v, v)) = some (xtl n (xup f c v)) := by
  unfold xwrite
  rw [if_pos ⟨Int.natCast_nonneg c, by rw [xtl_len]; exact Int.ofNat_lt.mpr h⟩, if_pos rfl, Int.toNat_natCast]
  exact congrArg some xtl_set
theorem xset_get {w : XW} {i j : Nat} {x : XC} {o : Option XC} (h : i ≠ j) (e : w[j]? = o) : (w.set i x)[j]? = o := by
  rw [List.getElem?_set_ne h, e]
theorem xset_at {w : XW} {i : Nat} {x : XC} (h : i < w.length) : (w.set i x)[i]? = some x := by
  rw [List.getElem?_set_self h]
