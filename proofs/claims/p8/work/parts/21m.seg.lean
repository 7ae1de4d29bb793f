/-! ===== narrower bounds, runs in pieces ===== -/
def xvle : XV → XV → Bool
  | .inl p, .inl q => decide (q.1 ≤ p.1 ∧ p.2 ≤ q.2)
  | .inr (.inl a), .inr (.inl b) => decide (b = none ∨ a = b)
  | .inr (.inr a), .inr (.inr b) => decide (a = b)
  | _, _ => false
def xlle : List XV → List XV → Bool
  | [], [] => true
  | x :: xs, y :: ys => xvle x y && xlle xs ys
  | _, _ => false
def xkle : XL → XL → Bool
  | [], [] => true
  | x :: xs, y :: ys => decide (x.1 = y.1) && (xvle x.2 y.2 && xkle xs ys)
  | _, _ => false
def xcle : XC → XC → Bool
  | .inl a, .inl b => decide (a.1 = b.1) && xlle a.2 b.2
  | .inr a, .inr b => decide (a.1 = b.1) && xlle a.2 b.2
  | _, _ => false
def xwle : XW → XW → Bool
  | [], [] => true
  | x :: xs, y :: ys => xcle x y && xwle xs ys
  | _, _ => false
/-- a configuration within another's bounds -/
def xsle (S S' : XS) : Bool := decide (S.1 = S'.1) && (xkle S.2.1 S'.2.1 && (xlle S.2.2.1 S'.2.2.1 && (xwle S.2.2.2.1 S'.2.2.2.1 && decide (S.2.2.2.2.1 ≤ S'.2.2.2.2.1 ∧ S.2.2.2.2.2 ≤ S'.2.2.2.2.2))))
theorem xvle_in {as ex : List Nat} {v : Value} : ∀ {x y : XV}, xvle x y = true → xv_in as ex x v → xv_in as ex y v
  | .inl p, .inl q, h, ⟨u, e, h1, h2⟩ => by
    have h := of_decide_eq_true (p := q.1 ≤ p.1 ∧ p.2 ≤ q.2) h
    exact ⟨u, e, by omega, by omega⟩
  | .inr (.inl a), .inr (.inl b), h, ⟨u, e, h1⟩ => by
    have h := of_decide_eq_true (p := b = none ∨ a = b) h
    refine ⟨u, e, fun z hz => ?_⟩
    rcases h with h | h
    · rw [h] at hz
      cases hz
    · exact h1 z (h.trans hz)
  | .inr (.inr a), .inr (.inr b), h, hv => by
    have h := of_decide_eq_true (p := a = b) h
    subst h
    exact hv
  | .inl _, .inr (.inl _), h, _ => by cases h
  | .inl _, .inr (.inr _), h, _ => by cases h
  | .inr (.inl _), .inl _, h, _ => by cases h
  | .inr (.inl _), .inr (.inr _), h, _ => by cases h
  | .inr (.inr _), .inl _, h, _ => by cases h
  | .inr (.inr _), .inr (.inl _), h, _ => by cases h
theorem xlle_in {as ex : List Nat} : ∀ {xs ys : List XV} {vs : List Value}, xlle xs ys = true → xl_in as ex xs vs → xl_in as ex ys vs
  | [], [], _, _, hv => hv
  | x :: xs, y :: ys, _, h, ⟨v, vs', e, h1, h2⟩ => by
    have h : (xvle x y && xlle xs ys) = true := h
    rw [Bool.and_eq_true] at h
    exact ⟨v, vs', e, xvle_in h.1 h1, xlle_in h.2 h2⟩
  | [], _ :: _, _, h, _ => by cases h
  | _ :: _, [], _, h, _ => by cases h
theorem xlle_at : ∀ {xs ys : List XV} {j : Nat} {y : XV}, xlle xs ys = true → ys[j]? = some y → ∃ x, xs[j]? = some x ∧ xvle x y = true
  | [], [], _, _, _, hj => by simp at hj
  | x :: xs, y :: ys, j, z, h, hj => by
    have h : (xvle x y && xlle xs ys) = true := h
    rw [Bool.and_eq_true] at h
    cases j with
    | zero =>
      rw [List.getElem?_cons_zero] at hj
      cases hj
      exact ⟨x, by rw [List.getElem?_cons_zero], h.1⟩
    | succ j =>
      rw [List.getElem?_cons_succ] at hj
      obtain ⟨u, h1, h2⟩ := xlle_at h.2 hj
      exact ⟨u, by rw [List.getElem?_cons_succ]; exact h1, h2⟩
  | [], _ :: _, _, _, h, _ => by cases h
  | _ :: _, [], _, _, h, _ => by cases h
theorem xlle_len : ∀ {xs ys : List XV}, xlle xs ys = true → xs.length = ys.length
  | [], [], _ => rfl
  | x :: xs, y :: ys, h => by
    have h : (xvle x y && xlle xs ys) = true := h
    rw [Bool.and_eq_true] at h
    simp [xlle_len h.2]
  | [], _ :: _, h => by cases h
  | _ :: _, [], h => by cases h
theorem xkle_in {as ex : List Nat} : ∀ {xs ys : XL} {vs : List (Nat × Value)}, xkle xs ys = true → xk_in as ex xs vs → xk_in as ex ys vs
  | [], [], _, _, hv => hv
  | x :: xs, y :: ys, _, h, ⟨v, vs', e, h1, h2⟩ => by
    have h : (decide (x.1 = y.1) && (xvle x.2 y.2 && xkle xs ys)) = true := h
    rw [Bool.and_eq_true, Bool.and_eq_true] at h
    have h0 := of_decide_eq_true h.1
    exact ⟨v, vs', by rw [← h0]; exact e, xvle_in h.2.1 h1, xkle_in h.2.2 h2⟩
  | [], _ :: _, _, h, _ => by cases h
  | _ :: _, [], _, h, _ => by cases h
theorem xcle_in {as ex : List Nat} {tA : Nat → ClassId} : ∀ {x y : XC} {v : va_E}, xcle x y = true → xc_in as ex tA x v → xc_in as ex tA y v
  | .inl a, .inl b, v, h, ⟨vs, e, h1⟩ => by
    have h : (decide (a.1 = b.1) && xlle a.2 b.2) = true := h
    rw [Bool.and_eq_true] at h
    have h0 := of_decide_eq_true h.1
    exact ⟨vs, by rw [← h0]; exact e, xlle_in h.2 h1⟩
  | .inr a, .inr b, v, h, ⟨x, e, h1, h2, h3⟩ => by
    have h : (decide (a.1 = b.1) && xlle a.2 b.2) = true := h
    rw [Bool.and_eq_true] at h
    have h0 := of_decide_eq_true h.1
    refine ⟨x, by rw [← h0]; exact e, h1.trans (xlle_len h.2), by rw [← h0]; exact h2, fun j y hy => ?_⟩
    obtain ⟨u, g1, g2⟩ := xlle_at h.2 hy
    exact xvle_in g2 (h3 j u g1)
  | .inl _, .inr _, _, h, _ => by cases h
  | .inr _, .inl _, _, h, _ => by cases h
theorem xwle_at : ∀ {xs ys : XW} {j : Nat} {y : XC}, xwle xs ys = true → ys[j]? = some y → ∃ x, xs[j]? = some x ∧ xcle x y = true
  | [], [], _, _, _, hj => by simp at hj
  | x :: xs, y :: ys, j, z, h, hj => by
    have h : (xcle x y && xwle xs ys) = true := h
    rw [Bool.and_eq_true] at h
    cases j with
    | zero =>
      rw [List.getElem?_cons_zero] at hj
      cases hj
      exact ⟨x, by rw [List.getElem?_cons_zero], h.1⟩
    | succ j =>
      rw [List.getElem?_cons_succ] at hj
      obtain ⟨u, h1, h2⟩ := xwle_at h.2 hj
      exact ⟨u, by rw [List.getElem?_cons_succ]; exact h1, h2⟩
  | [], _ :: _, _, _, h, _ => by cases h
  | _ :: _, [], _, _, h, _ => by cases h
theorem xwle_len : ∀ {xs ys : XW}, xwle xs ys = true → xs.length = ys.length
  | [], [], _ => rfl
  | x :: xs, y :: ys, h => by
    have h : (xcle x y && xwle xs ys) = true := h
    rw [Bool.and_eq_true] at h
    simp [xwle_len h.2]
  | [], _ :: _, h => by cases h
  | _ :: _, [], h => by cases h
theorem xwle_in {ex : List Nat} {tA : Nat → ClassId} {w w' : XW} {ws : va_W} (h : xwle w w' = true) (hw : xw_in ex tA w ws) : xw_in ex tA w' ws := by
  refine ⟨(xwle_len h).symm.trans hw.1, fun i c hc => ?_⟩
  obtain ⟨x, h1, h2⟩ := xwle_at h hc
  obtain ⟨a, e, h3, h4⟩ := hw.2 i x h1
  exact ⟨a, e, h3, xcle_in h2 h4⟩
theorem xsat_mono {p : Program} {l : Launch} {e : Env} {R : Room} {s : State} {m : MethodId} {args : Array Value} {below : List Frame} {meth : Method} {c : Code} {Q : State → Prop} {nL : Nat} {D : va_G} {cl : List vw_C} {tA : Nat → ClassId} {A : Nat → Prop} {as0 ex : List Nat} {S S' : XS} (h : xsle S S' = true) (hs : XSat p l e R s m args below meth c Q nL D cl tA A as0 ex S') : XSat p l e R s m args below meth c Q nL D cl tA A as0 ex S := by
  unfold xsle at h
  rw [Bool.and_eq_true, Bool.and_eq_true, Bool.and_eq_true, Bool.and_eq_true] at h
  obtain ⟨g1, g2, g3, g4, g5⟩ := h
  have g1 := of_decide_eq_true g1
  have g5 := of_decide_eq_true g5
  intro H locs ls vs lw ws ⟨h1, h2, h3, h4, h5, h6, h7, h8⟩
  refine W.widen g5.1 g5.2 ?_
  rw [g1]
  exact hs H locs ls vs lw ws ⟨xkle_in g2 h1, xlle_in g3 h2, xwle_in g4 h3, h4, h5, h6, h7, h8⟩
/-- a run in pieces: steps, and bounds made wider -/
def xroad (f : XS → Option XR) (S : XS) (q : Option XV × XW × Nat × Nat) : Prop := ∀ P : XR → Prop, (∀ S r, f S = some r → P r → P (.inl S)) → (∀ S S', xsle S S' = true → P (.inl S') → P (.inl S)) → P (.inr q) → P (.inl S)
theorem xroad.run {f : XS → Option XR} {fu : Nat} {S : XS} {q : Option XV × XW × Nat × Nat} (h : xrun f fu S = some (.inr q)) : xroad f S q := fun _ h1 _ h3 => xrun_ok h1 fu S _ h h3
theorem xroad.steps {f : XS → Option XR} {n : Nat} {S S' : XS} {q : Option XV × XW × Nat × Nat} (h : xsteps f n S = some S') (k : xroad f S' q) : xroad f S q := fun P h1 h2 h3 => xsteps_ok h1 n S S' h (k P h1 h2 h3)
theorem xroad.wide {f : XS → Option XR} {S S' : XS} {q : Option XV × XW × Nat × Nat} (h : xsle S S' = true) (k : xroad f S' q) : xroad f S q := fun P h1 h2 h3 => h2 S S' h (k P h1 h2 h3)
set_option maxHeartbeats 4000000 in
/-- a method's contract out of a run in pieces -/
theorem xmet_of {l : Launch} {D : va_G} {cl : List vw_C} {tys : List (ClassId × FieldType)} {tA : Nat → ClassId} {ex : List Nat} {exc : List (List XV)} {Ts : List Cond} {SV : List (String × String × String × Nat)} {NW : List (String × Nat × MethodName × String)} {NF : List (String × Nat × String × String × String × String)} {MT : Nat → Option XM} {FT : Nat → Nat → Option FieldType} {FD : Nat → Option (List XV)} {TY : Nat → Option FieldType} {TC : Nat → Option Nat} {cf : XF} (hG : ∀ w ∈ Ts, (w.onTables && w.keeps) = true ∨ ∃ ty, w = .arrayClass ty) (hT : xty tys tA) (hTY : ∀ t C, 3 ≤ t → t < 7 → TY t = some (.object C) → tys[t]? = some (tA t, .object C)) (hTC : ∀ t b, TC t = some b → 3 ≤ t ∧ t < 7 ∧ ∃ o : vw_C, cl[b]? = some o ∧ tys[t]? = some (tA t, .object o.1))
    (hok : ∀ j N, MT j = some N → plainName (xm_y N).cls = true ∧ ∀ pc q, xfetch (xm_t N) pc = some q → xdec (xm_c N) pc q.1 ∧ xaux cl Ts MT FT FD TY SV NW NF N pc q.2.1 q.2.2.1 q.2.2.2 q.1)
    (hcf : ∀ (j : Nat) (N : XM) (as : List XV) (w : XW) (ro : Option XV) (w' : XW), MT j = some N → cf j as w = some (ro, w') → XMet l D cl tys tA ex exc SV NW NF Ts N as w ro w')
    {j : Nat} {N : XM} (hN : MT j = some N) {as : List XV} {w : XW} {ro : Option XV} {w2 w' : XW} {k2 n2 : Nat} (hc : (as.map xcat).sum ≤ xm_l N) (hcap : k2 ≤ xm_k N ∧ n2 ≤ xm_n N) (hw2 : xwle w2 w' = true) (hrun : xroad (xstep cf MT FT FD TY TC exc N) (0, xk_args 0 as, [], w, 0, 0) (ro, w2, k2, n2)) : XMet l D cl tys tA ex exc SV NW NF Ts N as w ro w' := by
  intro vals ws sz hvals hws
  refine Met.ofW (cc := xm_c N) (maxL := xm_l N) (ret := xm_r N) (hok j N hN).1 rfl ?_
  intro p e s m args below meth c s₁ B hml hv
  obtain ⟨rfl, hsz, hP, hD0, hE⟩ := hv
  have hx := B.exec
  have hb := B.bytes
  have hr := B.returns
  have hts0 := atoms_spec (ws := xws Ts N) B.pre
  have hts : ∀ w ∈ Ts, w.before vals.toArray s = true := fun w h => hts0 w (List.mem_cons_of_mem _ h)
  have hown : s.vm.findClass (xm_y N).cls = some m.cls := findClass_of_methodNamed B.named
  have hname : (xm_y N).name = "<init>" → meth.name = "<init>" := fun h => (name_of_methodNamed B.named B.method).1.trans h
  have hlocks := B.notSynchronized
  subst hsz
  have hD := hD0.self (sz := s.heap.size)
  have hA : ∀ q : Nat, s.heap.size ≤ q → va_A ws s.heap.size q := fun q h => Or.inr h
  have hl := lv_entry vals (n := xm_l N) (by rw [x_lgsl, hvals.cats]; exact hc)
  rw [lg_entry_eq]
  have key := hrun (XRs p l e (headSpec (xws Ts N) (xrm N)).room s m vals.toArray below meth c (MQ below (XQ D cl tA ex ro w' ws s.heap.size) vals.toArray s (xm_k N) (xm_n N) (va_A ws s.heap.size)) (xm_c N) (xm_l N) D cl tA (va_A ws s.heap.size) (xad ws) ex (xm_r N)) (fun S r hS hR => by
    unfold xstep at hS
    cases hf : xfetch (xm_t N) S.1 with
    | none => rw [hf] at hS; cases hS
    | some q =>
      rw [hf] at hS
      obtain ⟨od, oa⟩ := (hok j N hN).2 S.1 q hf
      exact xins_ok hx hb hml hown hname hts hG hE hA rfl rfl rfl rfl hT hTY hTC hcf od oa hS hR) (fun S S' h hS => xsat_mono h hS) ?_
  · exact key s.heap [] _ [] (lv_args 0 vals) ws ⟨xk_in.args 0 hvals, rfl, hws, hP, hD, va_S.rf, hl, [], by simp⟩
  · intro pc i H locs ls rv ws' hd hrt hrk ho hz hw hP hD hS htl
    refine W.widen hcap.1 hcap.2 ?_
    have fin : ∀ (o : Option Value), o = rv → ∀ t : State, t.heap = H → s.WarmedH t.vm → XQ D cl tA ex ro w' ws s.heap.size vals.toArray s (.returned o) t := fun o e0 t ht _ => ⟨⟨rv, ws', by rw [e0], ho, by rw [ht]; exact hP, hD, xwle_in hw2 hw, htl⟩, hS.F ht⟩
    cases i with
    | ireturn =>
      obtain ⟨x, rfl⟩ := hrk
      rcases hrt with h0 | h0
      · exact W.iret (v := x) hx hb (hr.trans h0) (fin _ rfl) hS.2.2 hd
      · exact W.zret (v := x) (ty := .boolean) hx hb (hr.trans h0) (by rcases hz (by rw [h0]; rfl) x rfl with rfl | rfl <;> decide +kernel) (fin _ rfl) hS.2.2 hd
    | lreturn =>
      obtain ⟨x, rfl⟩ := hrk
      exact W.lret (v := x) hx hb (hr.trans hrt) (fin _ rfl) hS.2.2 hd
    | areturn =>
      obtain ⟨C, hrt⟩ := hrt
      rcases hrk with rfl | ⟨x, rfl⟩
      · exact W.aret (v := .null) hx hb (hr.trans hrt) (Or.inl ⟨C, rfl⟩) (Or.inl rfl) (fin _ rfl) hS.2.2 hd
      · exact W.aret (v := .ref x) hx hb (hr.trans hrt) (Or.inl ⟨C, rfl⟩) (Or.inr ⟨x, rfl⟩) (fin _ rfl) hS.2.2 hd
    | return_ =>
      have hrk : rv = none := hrk
      subst hrk
      exact W.vret hx hb (hr.trans hrt) (fin _ rfl) hS.2.2 hd
    | _ => exact absurd hrk id
/-- of narrower arguments and a narrower world -/
theorem xmet_mono {l : Launch} {D : va_G} {cl : List vw_C} {tys : List (ClassId × FieldType)} {tA : Nat → ClassId} {ex : List Nat} {exc : List (List XV)} {Ts : List Cond} {SV : List (String × String × String × Nat)} {NW : List (String × Nat × MethodName × String)} {NF : List (String × Nat × String × String × String × String)} {N : XM} {as as' : List XV} {w w' : XW} {ro : Option XV} {w2 : XW} (ha : xlle as as' = true) (hw : xwle w w' = true) (h : XMet l D cl tys tA ex exc SV NW NF Ts N as' w' ro w2) : XMet l D cl tys tA ex exc SV NW NF Ts N as w ro w2 :=
  fun vals ws sz h1 h2 => h vals ws sz (xlle_in ha h1) (xwle_in hw h2)
-- a check put together out of its pieces
theorem xcov_rg {β : Type} (g f : β) (a : Int) (n : Nat) : ∀ (k : Nat), k ≤ n → xcov (a + (k : Int)) (((List.range n).drop k).map (fun (i : Nat) => ((a + (i : Int), a + (i : Int)), g)) ++ [((a + (n : Int), 2147483647), f)]) = true := by
  intro k hk
  obtain ⟨d, hd⟩ : ∃ d, n = k + d := ⟨n - k, by omega⟩
  induction d generalizing k with
  | zero =>
    have : k = n := by omega
    subst this
    rw [List.drop_eq_nil_of_le (by simp)]
    show (decide (a + (k : Int) ≤ a + (k : Int)) && decide ((2147483647 : Int) < 2147483647 + 1)) = true
    simp
  | succ d ih =>
    have hlt : k < n := by omega
    have e0 : (List.range n).drop k = k :: (List.range n).drop (k + 1) := by
      rw [List.drop_eq_getElem_cons (by simpa using hlt)]
      simp
    rw [e0]
    show (decide (a + (k : Int) ≤ a + (k : Int)) && xcov (a + (k : Int) + 1) _) = true
    rw [Bool.and_eq_true]
    refine ⟨by simp, ?_⟩
    have := ih (k + 1) (by omega) (by omega)
    rw [show a + (k : Int) + 1 = a + ((k + 1 : Nat) : Int) by omega]
    exact this
theorem xchk_rg {β : Type} {F : Int × Int → β → Bool} {f g : β} {a : Int} {n : Nat} (h0 : F (-2147483648, a - 1) f = true) (hi : ∀ i : Nat, i < n → F (a + (i : Int), a + (i : Int)) g = true) (h1 : F (a + (n : Int), 2147483647) f = true) : xchk (xrg a n f g) F = true := by
  unfold xchk
  rw [Bool.and_eq_true]
  refine ⟨?_, List.all_eq_true.mpr (fun q hq => ?_)⟩
  · show (decide ((-2147483648 : Int) ≤ -2147483648) && xcov (a - 1 + 1) _) = true
    rw [Bool.and_eq_true]
    refine ⟨by simp, ?_⟩
    have := xcov_rg g f a n 0 (Nat.zero_le n)
    rw [List.drop_zero] at this
    rw [show a - 1 + 1 = a + ((0 : Nat) : Int) by omega]
    exact this
  · unfold xrg at hq
    rcases List.mem_cons.mp hq with rfl | hq
    · exact h0
    · rcases List.mem_append.mp hq with hq | hq
      · obtain ⟨i, hi2, rfl⟩ := List.mem_map.mp hq
        exact hi i (List.mem_range.mp hi2)
      · rw [List.mem_singleton.mp hq]
        exact h1
