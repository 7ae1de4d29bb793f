/-! ===== what is made, objects' fields, calls ===== -/
theorem x_repl {as ex : List Nat} {x : XV} {x0 : vp_A} {N : Nat} (h : ∀ j, xv_in as ex x (xa_get x0 j)) : ∀ (j : Nat) (y : XV), (List.replicate N x)[j]? = some y → xv_in as ex y (xa_get x0 j) := by
  intro j y hy
  have hm := List.mem_of_getElem? hy
  rw [(List.mem_replicate.mp hm).2]
  exact h j
/-- of one type there is one class of arrays -/
theorem x_same {s : State} {c1 c2 : ClassId} {ty : FieldType} (h1 : va_RA s c1 ty) (h2 : va_RA s c2 ty) : c1 = c2 := by
  cases ty with
  | object C =>
    obtain ⟨_, _, _, _, _, a⟩ := h1
    obtain ⟨_, _, _, _, _, b⟩ := h2
    exact Option.some.inj (a.symm.trans b)
  | _ => exact Option.some.inj (Eq.trans (Eq.symm h1) h2)
/-- a class with its fields -/
def xclo (cl : List vw_C) (Ts : List Cond) (ci : Nat) (C : String) (T : u_T) (N : Nat) (ty : Nat → FieldType) : Prop := cl[ci]? = some (C, T, N) ∧ (∀ w ∈ u_ws C T N, w ∈ Ts) ∧ (∀ k, k < N → parseFieldDescriptor (T k).2.2.1 = some (ty k)) ∧ ∀ a, a < N → ∀ b, b < N → a ≠ b → (T a).2.1 ≠ (T b).2.1
section XO
variable {p : Program} {l : Launch} {e : Env} {R : Room} {s : State} {m : MethodId} {args : Array Value} {below : List Frame} {meth : Method} {c : Code} {Q : State → Prop} {cc : ByteArray} {nL : Nat} {D : va_G} {cl : List vw_C} {tys : List (ClassId × FieldType)} {tA : Nat → ClassId} {A : Nat → Prop} {as0 ex : List Nat} {exc : List (List XV)} {ret : Option FieldType} {pc : Nat} {lv : XL} {st : List XV} {w : XW} {k n : Nat} {r : XR} {own : String} {Ts : List Cond}
theorem x_small {q : Int × Int} {x : Int32} (h1 : q.1 ≤ x.toInt) (h2 : x.toInt ≤ q.2) (e0 : q.1 = q.2) (h0 : 0 ≤ q.1) : ¬ x < 0 ∧ x.toNatClampNeg = q.1.toNat := by
  refine ⟨fun h => ?_, ?_⟩
  · rw [Int32.lt_iff_toInt_lt] at h
    have z : (0 : Int32).toInt = 0 := rfl
    omega
  · have hn : x.toNatClampNeg = x.toInt.toNat := rfl
    rw [hn, show x.toInt = q.1 by omega]
theorem xo_newa {t : Nat} {at' : ArrayType} (hat : (at' = .int ∧ t = 0) ∨ (at' = .long ∧ t = 1) ∨ (at' = .boolean ∧ t = 2)) (hw0 : (Cond.arrayClass (newarray.typeOf at')).before args s = true) (hx : p.tables.exec = Jvm.exec) (hb : c.code = cc) (hd : decode cc pc = .ok (.newarray at', 2)) (hK : va_K D cl tys s) (hT : xty tys tA) (hA : ∀ q, s.heap.size ≤ q → A q) {TY : Option FieldType} (hTY : TY = some (newarray.typeOf at')) (h : xh_newa 2 t TY R.cells R.slots pc lv st w k n = some r) (hr : XRs p l e R s m args below meth c Q cc nL D cl tA A as0 ex ret r) : XSat p l e R s m args below meth c Q nL D cl tA A as0 ex (pc, lv, st, w, k, n) := by
  subst hTY
  match st, h with
  | .inl q :: st, h =>
    unfold xh_newa at h
    dsimp only at h
    by_cases hq : q.1 = q.2 ∧ 0 ≤ q.1 ∧ q.1 < 1000 ∧ k + 1 ≤ R.cells ∧ n + q.1.toNat ≤ R.slots
    · rw [if_pos hq] at h
      obtain ⟨q1, q2, q3, q4, q5⟩ := hq
      intro H locs ls vs lw ws ⟨h1, h2, h3, h4, h5, h6, h7, h8⟩
      obtain ⟨_, vs', rfl, ⟨x, rfl, x1, x2⟩, h2⟩ := h2
      obtain ⟨hn, hN⟩ := x_small x1 x2 q1 q2
      have go : ∀ (x0 : vp_A) (y : XV), xa_k t x0 → x0.1 = q.1.toNat → (∀ as (j : Nat), xv_in as ex y (xa_get x0 j)) → r = .inl (pc + 2, lv, .inr (.inr (1, w.length)) :: st, w ++ [.inr (t, List.replicate q.1.toNat y)], k + 1, n + q.1.toNat) → ∀ (g : Nat) (H1 : Heap), va_P D cl (ws ++ [(g, .inl (tA t, x0))]) H1 → va_D A (ws ++ [(g, .inl (tA t, x0))]) → va_S A s.heap H1 locs → W p l e R s m args below meth c H1 locs (k + 1) (n + q.1.toNat) Q (F0 m (pc + 2) ls (.ref g :: vs')) := by
        intro x0 y e1 e2 e3 e4 g H1 hP hD hS
        subst e4
        refine hr H1 locs ls (.ref g :: vs') lw (ws ++ [(g, .inl (tA t, x0))]) ⟨by rw [xad_push]; exact h1.mono _, ⟨_, vs', rfl, Or.inr ⟨g, rfl, Or.inl ⟨rfl, ?_⟩⟩, by rw [xad_push]; exact h2.mono _⟩, h3.push ⟨x0, rfl, by rw [e2, List.length_replicate], e1, x_repl (e3 _)⟩, hP, hD, hS, h7, ?_⟩
        · show (xad (ws ++ [(g, _)]))[w.length]? = some g
          rw [xad_push, h3.1, show ws.length = (xad ws).length by simp [xad]]
          simp
        · obtain ⟨tl, htl⟩ := h8
          exact ⟨tl ++ [g], by rw [xad_push, htl, List.append_assoc]⟩
      rcases hat with ⟨rfl, rfl⟩ | ⟨rfl, rfl⟩ | ⟨rfl, rfl⟩
      · refine va_newa (N' := q.1.toNat) (a0 := (q.1.toNat, .inl fun _ => 0)) hx hb hw0 rfl hK h4 h5 h6 hA (fun _ => rfl) hn hN (by show q.1.toNat * 4 ≤ _; omega) q4 q5 hd (fun g cA H1 hK1 hP hD hS => ?_)
        have ec : cA = tA 0 := x_same (hK1.2 tys.length (cA, .int) (by rw [List.getElem?_append_right (Nat.le_refl _), Nat.sub_self]; rfl)).2 (hK.2 0 _ hT.1).2
        subst ec
        exact go (q.1.toNat, .inl fun _ => 0) (xi 0) (Or.inl rfl) rfl (fun _ _ => ⟨0, rfl, Int.le_refl _, Int.le_refl _⟩) (Option.some.inj h).symm g H1 hP hD hS
      · refine va_newa (N' := q.1.toNat) (a0 := (q.1.toNat, .inr (.inl fun _ => 0))) hx hb hw0 rfl hK h4 h5 h6 hA (fun _ => rfl) hn hN (by show q.1.toNat * 8 ≤ _; omega) q4 q5 hd (fun g cA H1 hK1 hP hD hS => ?_)
        have ec : cA = tA 1 := x_same (hK1.2 tys.length (cA, .long) (by rw [List.getElem?_append_right (Nat.le_refl _), Nat.sub_self]; rfl)).2 (hK.2 1 _ hT.2.1).2
        subst ec
        exact go (q.1.toNat, .inr (.inl fun _ => 0)) (.inr (.inl (some 0))) rfl rfl (fun _ _ => ⟨0, rfl, fun z hz => by cases hz; rfl⟩) (Option.some.inj h).symm g H1 hP hD hS
      · refine va_newa (N' := q.1.toNat) (a0 := (q.1.toNat, .inl fun _ => 0)) hx hb hw0 rfl hK h4 h5 h6 hA (fun _ => rfl) hn hN (by show q.1.toNat * 1 ≤ _; omega) q4 q5 hd (fun g cA H1 hK1 hP hD hS => ?_)
        have ec : cA = tA 2 := x_same (hK1.2 tys.length (cA, .boolean) (by rw [List.getElem?_append_right (Nat.le_refl _), Nat.sub_self]; rfl)).2 (hK.2 2 _ hT.2.2.1).2
        subst ec
        exact go (q.1.toNat, .inl fun _ => 0) (xi 0) (Or.inr rfl) rfl (fun _ _ => ⟨0, rfl, Int.le_refl _, Int.le_refl _⟩) (Option.some.inj h).symm g H1 hP hD hS
    · rw [if_neg hq] at h
      cases h
theorem xo_newq {t idx : Nat} {C : String} (t3 : 3 ≤ t) (t7 : t < 7) (hty : tys[t]? = some (tA t, .object C)) (hown : s.vm.findClass own = some m.cls) (hcl : (Cond.classLink own idx C).before args s = true) (hov : va_AO C s) (hx : p.tables.exec = Jvm.exec) (hb : c.code = cc) (hd : decode cc pc = .ok (.anewarray idx, 3)) (hK : va_K D cl tys s) (hA : ∀ q, s.heap.size ≤ q → A q) {TY : Option FieldType} (hTY : TY = some (.object C)) (h : xh_newa 3 t TY R.cells R.slots pc lv st w k n = some r) (hr : XRs p l e R s m args below meth c Q cc nL D cl tA A as0 ex ret r) : XSat p l e R s m args below meth c Q nL D cl tA A as0 ex (pc, lv, st, w, k, n) := by
  subst hTY
  match st, h with
  | .inl q :: st, h =>
    unfold xh_newa at h
    dsimp only at h
    by_cases hq : q.1 = q.2 ∧ 0 ≤ q.1 ∧ q.1 < 1000 ∧ k + 1 ≤ R.cells ∧ n + q.1.toNat ≤ R.slots
    · rw [if_pos hq] at h
      obtain ⟨q1, q2, q3, q4, q5⟩ := hq
      cases h
      intro H locs ls vs lw ws ⟨h1, h2, h3, h4, h5, h6, h7, h8⟩
      obtain ⟨_, vs', rfl, ⟨x, rfl, x1, x2⟩, h2⟩ := h2
      obtain ⟨hn, hN⟩ := x_small x1 x2 q1 q2
      refine va_newq (N' := q.1.toNat) hx hb hown hcl hov hK h4 h5 h6 hA hn hN (by omega) q4 q5 hd (fun g cA H1 hK1 hP hD hS => ?_)
      have ec : cA = tA t := x_same (hK1.2 tys.length (cA, .object C) (by rw [List.getElem?_append_right (Nat.le_refl _), Nat.sub_self]; rfl)).2 (hK.2 t _ hty).2
      subst ec
      refine hr H1 locs ls (.ref g :: vs') lw _ ⟨by rw [xad_push]; exact h1.mono _, ⟨_, vs', rfl, Or.inr ⟨g, rfl, Or.inl ⟨rfl, ?_⟩⟩, by rw [xad_push]; exact h2.mono _⟩, h3.push ⟨(q.1.toNat, .inr (.inr (.inr (.inr (fun _ => none))))), rfl, by rw [List.length_replicate], show 3 ≤ t ∧ t < 7 from ⟨t3, t7⟩, x_repl (fun _ => Or.inl ⟨rfl, rfl⟩)⟩, hP, hD, hS, h7, ?_⟩
      · show (xad (ws ++ [(g, _)]))[w.length]? = some g
        rw [xad_push, h3.1, show ws.length = (xad ws).length by simp [xad]]
        simp
      · obtain ⟨tl, htl⟩ := h8
        exact ⟨tl ++ [g], by rw [xad_push, htl, List.append_assoc]⟩
    · rw [if_neg hq] at h
      cases h
theorem xo_new {ci idx : Nat} {C : String} {T : u_T} {N : Nat} {ty : Nat → FieldType} {fs : List XV} {fv : List Value} (hC : xclo cl Ts ci C T N ty) (hfl : fs.length = N) (hfv : ∀ as : List Nat, xl_in as ex fs fv) (hdf : ∀ j, j < N → defaultValue (ty j) = vp_V fv j) (hts : ∀ w ∈ Ts, w.before args s = true) (hown : s.vm.findClass own = some m.cls) (hcl : (Cond.classLink own idx C).before args s = true) (hin : (Cond.instantiable C N).before args s = true) (hini : (Cond.initialized C).before args s = true) (hx : p.tables.exec = Jvm.exec) (hb : c.code = cc) (hd : decode cc pc = .ok (.new idx, 3)) (hK : va_K D cl tys s) (hA : ∀ q, s.heap.size ≤ q → A q) {FD : Option (List XV)} (hFD : FD = some fs) (h : xh_new ci FD R.cells R.slots pc lv st w k n = some r) (hr : XRs p l e R s m args below meth c Q cc nL D cl tA A as0 ex ret r) : XSat p l e R s m args below meth c Q nL D cl tA A as0 ex (pc, lv, st, w, k, n) := by
  subst hFD
  unfold xh_new at h
  dsimp only at h
  by_cases hq : k + 1 ≤ R.cells ∧ n + fs.length ≤ R.slots
  · rw [if_pos hq] at h
    cases h
    intro H locs ls vs lw ws ⟨h1, h2, h3, h4, h5, h6, h7, h8⟩
    rw [hfl] at hq
    refine va_new (ci := ci) (fs := fv) hx hb hts hC.2.1 ty hC.2.2.1 hown hcl hin hini hK h4 h5 h6 hA hC.1 hdf hq.1 hq.2 hd (fun g H1 hP hD hS => ?_)
    have hk2 : (k + 1, n + N) = (k + 1, n + fs.length) := by rw [hfl]
    have go := hr H1 locs ls (.ref g :: vs) lw (ws ++ [(g, .inr (ci, fv))]) ⟨by rw [xad_push]; exact h1.mono _, ⟨_, vs, rfl, Or.inr ⟨g, rfl, Or.inl ⟨rfl, by
        show (xad (ws ++ [(g, _)]))[w.length]? = some g
        rw [xad_push, h3.1, show ws.length = (xad ws).length by simp [xad]]
        simp⟩⟩, by rw [xad_push]; exact h2.mono _⟩, h3.push ⟨fv, rfl, hfv _⟩, hP, hD, hS, h7, by
        obtain ⟨tl, htl⟩ := h8
        exact ⟨tl ++ [g], by rw [xad_push, htl, List.append_assoc]⟩⟩
    rw [← hfl]
    exact go
  · rw [if_neg hq] at h
    cases h
theorem xo_get {ci f idx : Nat} {C : String} {T : u_T} {N : Nat} {ty : Nat → FieldType} (hC : xclo cl Ts ci C T N ty) (hf : f < N) (hts : ∀ w ∈ Ts, w.before args s = true) (hown : s.vm.findClass own = some m.cls) (hlk : (Cond.fieldLink own idx (T f).1 (T f).2.1 (T f).2.2.1).before args s = true) (hx : p.tables.exec = Jvm.exec) (hb : c.code = cc) (hd : decode cc pc = .ok (.getfield idx, 3)) (hK : va_K D cl tys s) (h : xh_get ci f pc lv st w k n = some r) (hr : XRs p l e R s m args below meth c Q cc nL D cl tA A as0 ex ret r) : XSat p l e R s m args below meth c Q nL D cl tA A as0 ex (pc, lv, st, w, k, n) := by
  match st, h with
  | .inr (.inr q) :: st, h =>
    unfold xh_get at h
    dsimp only at h
    by_cases hq1 : q.1 = 1
    · rw [if_pos hq1] at h
      cases hc : w[q.2]? with
      | none => rw [hc] at h; cases h
      | some o =>
        rw [hc] at h
        match o, hc, h with
        | .inr _, _, h' => cases h'
        | .inl (ci', fs), hc, h' =>
          dsimp only at h'
          by_cases hci : ci' = ci
          · rw [if_pos hci] at h'
            subst hci
            cases hfs : fs[f]? with
            | none => rw [hfs] at h'; cases h'
            | some y =>
              rw [hfs] at h'
              cases h'
              intro H locs ls vs lw ws ⟨h1, h2, h3, h4, h5, h6, h7, h8⟩
              obtain ⟨u, vs', rfl, hq, h2⟩ := h2
              rcases hq with ⟨h0, _⟩ | ⟨a, rfl, ⟨_, ha⟩ | ⟨h0, _⟩⟩
              · omega
              · obtain ⟨e0, g1, fv, rfl, g2⟩ := h3.at hc ha
                obtain ⟨v, hv1, hv2⟩ := g2.get hfs
                exact va_get hx hb hts hC.2.1 hown hK h4 q.2 g1 hC.1 f hf hlk (fun _ h9 => h9) hv1 hd (hr H locs ls (v :: vs') lw ws ⟨h1, ⟨v, vs', rfl, hv2, h2⟩, h3, h4, h5, h6, h7, h8⟩)
              · omega
          · rw [if_neg hci] at h'
            cases h'
    · rw [if_neg hq1] at h
      cases h
theorem x_fit {as : List Nat} : ∀ {ty : FieldType} {x : XV} {v : Value}, xfit ty x = true → xv_in as ex x v → narrow ty v = v ∧ fits ty v = true
  | ty, .inl q, v, h, ⟨x, e0, _⟩ => by
    subst e0
    cases ty <;> first | exact ⟨rfl, rfl⟩ | cases h
  | ty, .inr (.inl q), v, h, ⟨x, e0, _⟩ => by
    subst e0
    cases ty <;> first | exact ⟨rfl, rfl⟩ | cases h
  | ty, .inr (.inr q), v, h, hv => by
    rcases hv with ⟨_, e0⟩ | ⟨a, e0, _⟩ <;> subst e0 <;> cases ty <;> first | exact ⟨rfl, rfl⟩ | cases h
theorem xo_put {ci f idx : Nat} {C : String} {T : u_T} {N : Nat} {ty : Nat → FieldType} (hC : xclo cl Ts ci C T N ty) (hf : f < N) (hfin : (T f).2.2.2 = false ∨ ((T f).2.2.2 = true ∧ meth.name = "<init>" ∧ (T f).1 = own)) (hts : ∀ w ∈ Ts, w.before args s = true) (hown : s.vm.findClass own = some m.cls) (hlk : (Cond.fieldLink own idx (T f).1 (T f).2.1 (T f).2.2.1).before args s = true) (hx : p.tables.exec = Jvm.exec) (hb : c.code = cc) (hd : decode cc pc = .ok (.putfield idx, 3)) (hK : va_K D cl tys s) {FT : Option FieldType} (hFT : FT = some (ty f)) (h : xh_put ci f FT pc lv st w k n = some r) (hr : XRs p l e R s m args below meth c Q cc nL D cl tA A as0 ex ret r) : XSat p l e R s m args below meth c Q nL D cl tA A as0 ex (pc, lv, st, w, k, n) := by
  subst hFT
  match st, h with
  | x :: .inr (.inr q) :: st, h =>
    unfold xh_put at h
    dsimp only at h
    by_cases hq1 : q.1 = 1
    · rw [if_pos hq1] at h
      cases hc : w[q.2]? with
      | none => rw [hc] at h; cases h
      | some o =>
        rw [hc] at h
        match o, hc, h with
        | .inr _, _, h' => cases h'
        | .inl (ci', fs), hc, h' =>
          dsimp only at h'
          by_cases hci : ci' = ci ∧ f < fs.length ∧ xfit (ty f) x = true
          · rw [if_pos hci] at h'
            obtain ⟨hci, hfl, hfit⟩ := hci
            subst hci
            cases h'
            intro H locs ls vs lw ws ⟨h1, h2, h3, h4, h5, h6, h7, h8⟩
            obtain ⟨v, _, rfl, hv, u, vs', rfl, hq, h2⟩ := h2
            rcases hq with ⟨h0, _⟩ | ⟨a, rfl, ⟨_, ha⟩ | ⟨h0, _⟩⟩
            · omega
            · obtain ⟨e0, g1, fv, rfl, g2⟩ := h3.at hc ha
              obtain ⟨n1, n2⟩ := x_fit hfit hv
              have go : ∀ (H1 : Heap) (locs1 : List Loc), va_P D cl (ws.set q.2 (a, .inr (ci', fv.set f v))) H1 → va_D A (ws.set q.2 (a, .inr (ci', fv.set f v))) → va_S A s.heap H1 locs1 → W p l e R s m args below meth c H1 locs1 k n Q (F0 m (pc + 3) ls vs') := fun H1 locs1 hP hD hS => hr H1 locs1 ls vs' lw _ ⟨by rw [xad_set g1]; exact h1, by rw [xad_set g1]; exact h2, h3.set g1 ⟨fv.set f v, rfl, g2.set hv⟩, hP, hD, hS, h7, by rw [xad_set g1]; exact h8⟩
              rcases hfin with hfin | ⟨hfin, hin2, hdecl⟩
              · exact va_put hx hb hts hC.2.1 ty hC.2.2.1 hC.2.2.2 hown hK h4 h5 h6 q.2 g1 hC.1 f hf hlk (fun _ h9 => h9) hfin (hC.2.2.1 f hf) n1 n2 (by rw [g2.len]; exact hfl) hd go
              · exact va_putF hx hb hts hC.2.1 ty hC.2.2.1 hC.2.2.2 hown hK h4 h5 h6 q.2 g1 hC.1 f hf hlk (fun _ h9 => h9) hfin hin2 hdecl (hC.2.2.1 f hf) n1 n2 (by rw [g2.len]; exact hfl) hd go
            · omega
          · rw [if_neg hci] at h'
            cases h'
    · rw [if_neg hq1] at h
      cases h
theorem xo_m2 {M : XM} {g : Int32 → Int32 → Int32} (h : xh_m2 g M pc lv st w k n = some r) (hr : XRs p l e R s m args below meth c Q cc nL D cl tA A as0 ex ret r) (row : ∀ (x y : Int32) (H : Heap) (locs : List Loc) (ls : Array Slot) (vs : List Value), ls.size = nL → 1 ≤ xm_f M → (vs.map fun v => v.category).sum + 13 ≤ xm_o M → k ≤ xm_k M → n ≤ xm_n M → W p l e R s m args below meth c H locs k n Q (F0 m (pc + 3) ls (.int (g x y) :: vs)) → W p l e R s m args below meth c H locs k n Q (F0 m pc ls (.int y :: .int x :: vs))) : XSat p l e R s m args below meth c Q nL D cl tA A as0 ex (pc, lv, st, w, k, n) := by
  match st, h with
  | .inl q :: .inl p0 :: st, h =>
    unfold xh_m2 at h
    dsimp only at h
    by_cases hq : 1 ≤ xm_f M ∧ (st.map xcat).sum + 13 ≤ xm_o M ∧ k ≤ xm_k M ∧ n ≤ xm_n M
    · rw [if_pos hq] at h
      cases h
      intro H locs ls vs lw ws ⟨h1, h2, h3, h4, h5, h6, h7, h8⟩
      obtain ⟨_, _, rfl, ⟨y, rfl, y1, y2⟩, _, vs', rfl, ⟨x, rfl, x1, x2⟩, h2⟩ := h2
      exact row x y H locs ls vs' h7.1 hq.1 (by rw [h2.cats]; exact hq.2.1) hq.2.2.1 hq.2.2.2 (hr H locs ls _ lw ws ⟨h1, ⟨_, vs', rfl, ⟨g x y, rfl, xe2_in g p0 q x y x1 x2 y1 y2⟩, h2⟩, h3, h4, h5, h6, h7, h8⟩)
    · rw [if_neg hq] at h
      cases h
theorem xo_m1 {M : XM} {g : Int32 → Int32} (h : xh_m1 g M pc lv st w k n = some r) (hr : XRs p l e R s m args below meth c Q cc nL D cl tA A as0 ex ret r) (row : ∀ (x : Int32) (H : Heap) (locs : List Loc) (ls : Array Slot) (vs : List Value), ls.size = nL → 1 ≤ xm_f M → (vs.map fun v => v.category).sum + 13 ≤ xm_o M → k ≤ xm_k M → n ≤ xm_n M → W p l e R s m args below meth c H locs k n Q (F0 m (pc + 3) ls (.int (g x) :: vs)) → W p l e R s m args below meth c H locs k n Q (F0 m pc ls (.int x :: vs))) : XSat p l e R s m args below meth c Q nL D cl tA A as0 ex (pc, lv, st, w, k, n) := by
  match st, h with
  | .inl p0 :: st, h =>
    unfold xh_m1 at h
    dsimp only at h
    by_cases hq : 1 ≤ xm_f M ∧ (st.map xcat).sum + 13 ≤ xm_o M ∧ k ≤ xm_k M ∧ n ≤ xm_n M
    · rw [if_pos hq] at h
      cases h
      intro H locs ls vs lw ws ⟨h1, h2, h3, h4, h5, h6, h7, h8⟩
      obtain ⟨_, vs', rfl, ⟨x, rfl, x1, x2⟩, h2⟩ := h2
      exact row x H locs ls vs' h7.1 hq.1 (by rw [h2.cats]; exact hq.2.1) hq.2.2.1 hq.2.2.2 (hr H locs ls _ lw ws ⟨h1, ⟨_, vs', rfl, ⟨g x, rfl, xe1_in g p0 x x1 x2⟩, h2⟩, h3, h4, h5, h6, h7, h8⟩)
    · rw [if_neg hq] at h
      cases h
theorem xcpy_at {es ed : List XV} {i j c : Nat} (h1 : i + c ≤ es.length) (h2 : j + c ≤ ed.length) : (xcpy es ed i j c).length = ed.length ∧ ∀ (q : Nat) (y : XV), (xcpy es ed i j c)[q]? = some y → (j ≤ q ∧ q < j + c ∧ es[i + (q - j)]? = some y) ∨ (¬ (j ≤ q ∧ q < j + c) ∧ ed[q]? = some y) := by
  have l1 : (ed.take j).length = j := by
    rw [List.length_take]
    omega
  have l2 : ((es.drop i).take c).length = c := by
    rw [List.length_take, List.length_drop]
    omega
  refine ⟨?_, fun q y hq => ?_⟩
  · unfold xcpy
    rw [List.length_append, List.length_append, l1, l2, List.length_drop]
    omega
  · unfold xcpy at hq
    by_cases a1 : q < j
    · rw [List.getElem?_append_left (by omega), List.getElem?_take_of_lt a1] at hq
      exact Or.inr ⟨by omega, hq⟩
    · rw [List.getElem?_append_right (by omega), l1] at hq
      by_cases a2 : q < j + c
      · rw [List.getElem?_append_left (by omega), List.getElem?_take_of_lt (by omega), List.getElem?_drop] at hq
        exact Or.inl ⟨by omega, a2, hq⟩
      · rw [List.getElem?_append_right (by omega), l2, List.getElem?_drop] at hq
        have e : j + c + (q - j - c) = q := by omega
        rw [e] at hq
        exact Or.inr ⟨by omega, hq⟩
theorem xo_cpy {M : XM} {idx : Nat} (hRf : R.frames = xm_f M) (hRo : R.locals = xm_o M) (hml : c.maxLocals = nL) (hown : s.vm.findClass own = some m.cls) (hlk : (Cond.methodLink own idx arraycopyName).before args s = true) (hna : (Cond.native arraycopyName).before args s = true) (hst : (Cond.static arraycopyName).before args s = true) (hini : (Cond.initialized "java/lang/System").before args s = true) (hK : va_K D cl tys s) (hT : xty tys tA) (hx : p.tables.exec = Jvm.exec) (hb : c.code = cc) (hd : decode cc pc = .ok (.invokestatic idx, 3)) (h : xh_cpy M pc lv st w k n = some r) (hr : XRs p l e R s m args below meth c Q cc nL D cl tA A as0 ex ret r) : XSat p l e R s m args below meth c Q nL D cl tA A as0 ex (pc, lv, st, w, k, n) := by
  match st, h with
  | .inl cz :: .inl jz :: .inr (.inr dq) :: .inl iz :: .inr (.inr sq) :: st, h =>
    unfold xh_cpy at h
    dsimp only at h
    by_cases hq : sq.1 = 1 ∧ dq.1 = 1 ∧ cz.1 = cz.2 ∧ jz.1 = jz.2 ∧ iz.1 = iz.2 ∧ 0 ≤ cz.1 ∧ 0 ≤ jz.1 ∧ 0 ≤ iz.1 ∧ 1 ≤ xm_f M ∧ (st.map xcat).sum + 18 ≤ xm_o M
    · rw [if_pos hq] at h
      obtain ⟨q1, q2, q3, q4, q5, q6, q7, q8, q9, q10⟩ := hq
      split at h
      · rename_i es ed hes hed
        by_cases hl : iz.1.toNat + cz.1.toNat ≤ es.length ∧ jz.1.toNat + cz.1.toNat ≤ ed.length
        · rw [if_pos hl] at h
          cases h
          intro H locs ls vs lw ws ⟨h1, h2, h3, h4, h5, h6, h7, h8⟩
          obtain ⟨_, _, rfl, ⟨cn, rfl, c1, c2⟩, _, _, rfl, ⟨jn, rfl, j1, j2⟩, ud, _, rfl, hud, _, _, rfl, ⟨iN, rfl, i1, i2⟩, us, vs', rfl, hus, h2⟩ := h2
          have hc : cn.toInt = cz.1 := by omega
          have hj : jn.toInt = jz.1 := by omega
          have hi : iN.toInt = iz.1 := by omega
          have ng : ∀ z : Int32, 0 ≤ z.toInt → ¬ z < 0 := fun z hz hlt => by
            have := Int32.lt_iff_toInt_lt.mp hlt
            have e0 : (0 : Int32).toInt = 0 := rfl
            omega
          have tc : ∀ (z : Int32) (y : Int), z.toInt = y → z.toNatClampNeg = y.toNat := fun z y e0 => by
            rw [← e0]
            rfl
          rcases hus with ⟨h0, _⟩ | ⟨a0, rfl, ⟨_, ha0⟩ | ⟨h0, _⟩⟩
          · omega
          · rcases hud with ⟨h0, _⟩ | ⟨a1, rfl, ⟨_, ha1⟩ | ⟨h0, _⟩⟩
            · omega
            · obtain ⟨e0, g1, X, rfl, g2, g3, g4⟩ := h3.at hes ha0
              obtain ⟨e1, f1, Y, rfl, f2, f3, f4⟩ := h3.at hed ha1
              obtain ⟨N0, F0'⟩ := X
              obtain ⟨N1, F1'⟩ := Y
              have g2 : N0 = es.length := g2
              have f2 : N1 = ed.length := f2
              subst g2
              subst f2
              match F0', F1', g1, g3, g4, f1, f3, f4 with
              | .inl f, .inl g, g1, g3, g4, f1, f3, f4 =>
                obtain ⟨x1, x2⟩ := xcpy_at hl.1 hl.2
                refine va_copyi hx hb (hml.trans h7.1.symm) hown hlk hna hst hini hK h4 h5 h6 sq.2 dq.2 0 0 g1 f1 hT.1 hT.1 rfl (ng _ (by omega)) (ng _ (by omega)) (ng _ (by omega)) (by rw [tc _ _ hi, tc _ _ hc]; exact hl.1) (by rw [tc _ _ hj, tc _ _ hc]; exact hl.2) (fun _ _ => rfl) (by rw [hRf]; exact q9) (by rw [hRo, h2.cats]; exact q10) hd (fun H1 locs1 hP hD hS => ?_)
                refine hr H1 locs1 ls vs' lw (ws.set dq.2 (a1, .inl (tA 0, (ed.length, .inl (va_cpy f g iN.toNatClampNeg jn.toNatClampNeg cn.toNatClampNeg))))) ⟨by rw [xad_set f1]; exact h1, by rw [xad_set f1]; exact h2, h3.set f1 ⟨(ed.length, .inl (va_cpy f g iN.toNatClampNeg jn.toNatClampNeg cn.toNatClampNeg)), rfl, x1.symm, f3, fun j' y hy => ?_⟩, hP, hD, hS, h7, by rw [xad_set f1]; exact h8⟩
                show xv_in (xad ws) ex y (.int (va_cpy f g iN.toNatClampNeg jn.toNatClampNeg cn.toNatClampNeg j'))
                rw [tc _ _ hi, tc _ _ hj, tc _ _ hc]
                rcases x2 j' y hy with ⟨y1, y2, y3⟩ | ⟨y1, y2⟩
                · unfold va_cpy
                  rw [if_pos ⟨y1, y2⟩]
                  exact g4 _ y y3
                · unfold va_cpy
                  rw [if_neg y1]
                  exact f4 _ y y2
              | .inr (.inl _), _, _, g3, _, _, _, _ => exact absurd (show (0 : Nat) = 1 from g3) (by decide)
              | .inr (.inr (.inl _)), _, _, g3, _, _, _, _ => exact absurd g3 id
              | .inr (.inr (.inr (.inl _))), _, _, g3, _, _, _, _ => exact absurd g3 id
              | .inr (.inr (.inr (.inr _))), _, _, g3, _, _, _, _ => exact absurd (show 3 ≤ 0 ∧ 0 < 7 from g3) (by decide)
              | .inl _, .inr (.inl _), _, _, _, _, f3, _ => exact absurd (show (0 : Nat) = 1 from f3) (by decide)
              | .inl _, .inr (.inr (.inl _)), _, _, _, _, f3, _ => exact absurd f3 id
              | .inl _, .inr (.inr (.inr (.inl _))), _, _, _, _, f3, _ => exact absurd f3 id
              | .inl _, .inr (.inr (.inr (.inr _))), _, _, _, _, f3, _ => exact absurd (show 3 ≤ 0 ∧ 0 < 7 from f3) (by decide)
            · omega
          · omega
        · rw [if_neg hl] at h
          cases h
      · cases h
    · rw [if_neg hq] at h
      cases h
theorem xo_oinit {M : XM} {idx : Nat} (hRf : R.frames = xm_f M) (hRo : R.locals = xm_o M) (hml : c.maxLocals = nL) (hown : s.vm.findClass own = some m.cls) (hlk : (Cond.methodLink own idx Lib.objectInit).before args s = true) (hin : (Cond.instanceMethod Lib.objectInit).before args s = true) (hcd : (Cond.code Lib.objectInit ⟨#[0xb1]⟩ 1 none).before args s = true) (hx : p.tables.exec = Jvm.exec) (hb : c.code = cc) (hd : decode cc pc = .ok (.invokespecial idx, 3)) (h : xh_oinit M pc lv st w k n = some r) (hr : XRs p l e R s m args below meth c Q cc nL D cl tA A as0 ex ret r) : XSat p l e R s m args below meth c Q nL D cl tA A as0 ex (pc, lv, st, w, k, n) := by
  match st, h with
  | .inr (.inr q) :: st, h =>
    unfold xh_oinit at h
    dsimp only at h
    by_cases hq : q.1 = 1 ∧ 1 ≤ xm_f M ∧ (st.map xcat).sum + 12 ≤ xm_o M
    · rw [if_pos hq] at h
      cases h
      intro H locs ls vs lw ws ⟨h1, h2, h3, h4, h5, h6, h7, h8⟩
      obtain ⟨u, vs', rfl, hv, h2⟩ := h2
      rcases hv with ⟨h0, _⟩ | ⟨a, rfl, _⟩
      · omega
      · refine W.objInit hx hb hown hlk hin hcd rfl (by rw [hml]; exact h7.1) rfl hd (by rw [hRf]; exact hq.2.1) (by
          show 2 * 0 + _ + 12 ≤ _
          rw [h2.cats, hRo]
          omega) ?_
        exact hr H locs ls vs' lw ws ⟨h1, h2, h3, h4, h5, h6, h7, h8⟩
    · rw [if_neg hq] at h
      cases h
end XO
