/-! ===== a row a family: the machine at a configuration goes on to the next one ===== -/
def xvk : Nat → Value → Prop
  | 0, v => ∃ y : Int32, v = .int y
  | 1, v => ∃ y : Int64, v = .long y
  | 2, v => v = .null ∨ ∃ a : Nat, v = .ref a
  | _, _ => False
theorem xv_in.vk {as ex : List Nat} : ∀ {x : XV} {v : Value}, xv_in as ex x v → xvk (xkd x) v
  | .inl _, _, ⟨x, e, _⟩ => ⟨x, e⟩
  | .inr (.inl _), _, ⟨x, e, _⟩ => ⟨x, e⟩
  | .inr (.inr _), _, h => by
    rcases h with ⟨_, e⟩ | ⟨a, e, _⟩
    · exact Or.inl e
    · exact Or.inr ⟨a, e⟩
theorem xh2_l {as ex : List Nat} {v : Value} : ∀ {x y z : XV}, xh2 x y = some z → xv_in as ex x v → xv_in as ex z v
  | .inl p, .inl q, _, h, ⟨u, e, h1, h2⟩ => by
    cases h
    refine ⟨u, e, ?_, ?_⟩
    · show (if p.1 ≤ q.1 then p.1 else q.1) ≤ u.toInt
      split <;> omega
    · show u.toInt ≤ (if p.2 ≤ q.2 then q.2 else p.2)
      split <;> omega
  | .inr (.inl a), .inr (.inl b), _, h, ⟨u, e, h1⟩ => by
    cases h
    refine ⟨u, e, fun z hz => ?_⟩
    by_cases hab : a = b
    · rw [if_pos hab] at hz
      exact h1 z hz
    · rw [if_neg hab] at hz
      cases hz
  | .inr (.inr a), .inr (.inr b), z, h, hv => by
    have h : (if a = b then some (Sum.inr (Sum.inr a)) else none) = some z := h
    by_cases hab : a = b
    · rw [if_pos hab] at h
      cases h
      exact hv
    · rw [if_neg hab] at h
      cases h
  | .inl _, .inr (.inl _), _, h, _ => by cases h
  | .inl _, .inr (.inr _), _, h, _ => by cases h
  | .inr (.inl _), .inl _, _, h, _ => by cases h
  | .inr (.inl _), .inr (.inr _), _, h, _ => by cases h
  | .inr (.inr _), .inl _, _, h, _ => by cases h
  | .inr (.inr _), .inr (.inl _), _, h, _ => by cases h
theorem xh2_r {as ex : List Nat} {v : Value} : ∀ {x y z : XV}, xh2 x y = some z → xv_in as ex y v → xv_in as ex z v
  | .inl p, .inl q, _, h, ⟨u, e, h1, h2⟩ => by
    cases h
    refine ⟨u, e, ?_, ?_⟩
    · show (if p.1 ≤ q.1 then p.1 else q.1) ≤ u.toInt
      split <;> omega
    · show u.toInt ≤ (if p.2 ≤ q.2 then q.2 else p.2)
      split <;> omega
  | .inr (.inl a), .inr (.inl b), _, h, ⟨u, e, h1⟩ => by
    cases h
    refine ⟨u, e, fun z hz => ?_⟩
    by_cases hab : a = b
    · rw [if_pos hab, hab] at hz
      exact h1 z hz
    · rw [if_neg hab] at hz
      cases hz
  | .inr (.inr a), .inr (.inr b), z, h, hv => by
    have h : (if a = b then some (Sum.inr (Sum.inr a)) else none) = some z := h
    by_cases hab : a = b
    · rw [if_pos hab] at h
      cases h
      rw [hab]
      exact hv
    · rw [if_neg hab] at h
      cases h
  | .inl _, .inr (.inl _), _, h, _ => by cases h
  | .inl _, .inr (.inr _), _, h, _ => by cases h
  | .inr (.inl _), .inl _, _, h, _ => by cases h
  | .inr (.inl _), .inr (.inr _), _, h, _ => by cases h
  | .inr (.inr _), .inl _, _, h, _ => by cases h
  | .inr (.inr _), .inr (.inl _), _, h, _ => by cases h
theorem xhull_in {as ex : List Nat} {v : Value} : ∀ {l : List XV} {y z : XV}, xhull l = some z → y ∈ l → xv_in as ex y v → xv_in as ex z v
  | [], _, _, _, hy, _ => by cases hy
  | [x], y, z, h, hy, hv => by
    have h : some x = some z := h
    cases h
    rw [List.mem_singleton.mp hy] at hv
    exact hv
  | x :: u :: l, y, z, h, hy, hv => by
    unfold xhull at h
    dsimp only at h
    cases hh : xhull (u :: l) with
    | none => rw [hh] at h; cases h
    | some g =>
      rw [hh] at h
      dsimp only at h
      rcases List.mem_cons.mp hy with e | hm
      · subst e
        exact xh2_l h hv
      · exact xh2_r h (xhull_in hh hm hv)
theorem xread_in {as ex : List Nat} {es : List XV} {q : Int × Int} {x : XV} {i : Int32} (h : xread es q = some x) (h1 : q.1 ≤ i.toInt) (h2 : i.toInt ≤ q.2) : vp_in i es.length ∧ ∃ y, es[i.toNatClampNeg]? = some y ∧ ∀ v, xv_in as ex y v → xv_in as ex x v := by
  unfold xread at h
  by_cases hb : 0 ≤ q.1 ∧ q.2 < es.length
  · rw [if_pos hb] at h
    have hin : vp_in i es.length := vp_in_iff.mpr ⟨by omega, by omega⟩
    refine ⟨hin, ?_⟩
    have hn : i.toNatClampNeg = i.toInt.toNat := rfl
    by_cases he : q.1 = q.2
    · rw [if_pos he] at h
      have : i.toInt = q.1 := by omega
      rw [hn, this]
      exact ⟨x, h, fun _ hv => hv⟩
    · rw [if_neg he] at h
      have hlt : i.toInt.toNat < es.length := by omega
      refine ⟨es[i.toInt.toNat], by rw [hn, List.getElem?_eq_getElem hlt], fun v hv => xhull_in h ?_ hv⟩
      apply List.mem_of_getElem? (i := i.toInt.toNat - q.1.toNat)
      rw [List.getElem?_take, if_pos (by omega), List.getElem?_drop, show q.1.toNat + (i.toInt.toNat - q.1.toNat) = i.toInt.toNat by omega, List.getElem?_eq_getElem hlt]
  · rw [if_neg hb] at h
    cases h
theorem xwr_in {as ex : List Nat} {v : XV} : ∀ {es es' : List XV} {lo k : Nat}, xwr v es lo k = some es' → es'.length = es.length ∧ ∀ (j : Nat) (y : XV), es'[j]? = some y → ∃ y0, es[j]? = some y0 ∧ (∀ u, xv_in as ex y0 u → xv_in as ex y u) ∧ (lo ≤ j → j < lo + k → ∀ u, xv_in as ex v u → xv_in as ex y u)
  | [], es', lo, k, h => by
    have h : some ([] : List XV) = some es' := by
      cases lo <;> cases k <;> exact h
    cases h
    exact ⟨rfl, fun j y hy => by simp at hy⟩
  | e :: l, es', lo + 1, k, h => by
    unfold xwr at h
    cases hh : xwr v l lo k with
    | none => rw [hh] at h; cases h
    | some l' =>
      rw [hh] at h
      cases h
      obtain ⟨i1, i2⟩ := xwr_in (as := as) (ex := ex) hh
      refine ⟨by simp [i1], fun j y hy => ?_⟩
      cases j with
      | zero =>
        rw [List.getElem?_cons_zero] at hy
        cases hy
        exact ⟨e, by rw [List.getElem?_cons_zero], fun _ hu => hu, fun h => by omega⟩
      | succ j =>
        rw [List.getElem?_cons_succ] at hy
        obtain ⟨y0, a1, a2, a3⟩ := i2 j y hy
        exact ⟨y0, by rw [List.getElem?_cons_succ]; exact a1, a2, fun h1 h2 => a3 (by omega) (by omega)⟩
  | e :: l, es', 0, k + 1, h => by
    unfold xwr at h
    cases hz : xh2 e v with
    | none => rw [hz] at h; cases h
    | some z =>
      cases hh : xwr v l 0 k with
      | none => rw [hz, hh] at h; cases h
      | some l' =>
        rw [hz, hh] at h
        cases h
        obtain ⟨i1, i2⟩ := xwr_in (as := as) (ex := ex) hh
        refine ⟨by simp [i1], fun j y hy => ?_⟩
        cases j with
        | zero =>
          rw [List.getElem?_cons_zero] at hy
          cases hy
          exact ⟨e, by rw [List.getElem?_cons_zero], fun _ hu => xh2_l hz hu, fun _ _ _ hu => xh2_r hz hu⟩
        | succ j =>
          rw [List.getElem?_cons_succ] at hy
          obtain ⟨y0, a1, a2, a3⟩ := i2 j y hy
          exact ⟨y0, by rw [List.getElem?_cons_succ]; exact a1, a2, fun h1 h2 => a3 (by omega) (by omega)⟩
  | e :: l, es', 0, 0, h => by
    have h : some (e :: l) = some es' := h
    cases h
    exact ⟨rfl, fun j y hy => ⟨y, hy, fun _ hu => hu, fun h1 h2 => by omega⟩⟩
theorem xwrite_in {as ex : List Nat} {es es' : List XV} {q : Int × Int} {v : XV} {i : Int32} (h : xwrite es q v = some es') (h1 : q.1 ≤ i.toInt) (h2 : i.toInt ≤ q.2) : vp_in i es.length ∧ es'.length = es.length ∧ ∀ (j : Nat) (y : XV), es'[j]? = some y → (j = i.toNatClampNeg → ∀ u, xv_in as ex v u → xv_in as ex y u) ∧ (j ≠ i.toNatClampNeg → ∃ y0, es[j]? = some y0 ∧ ∀ u, xv_in as ex y0 u → xv_in as ex y u) := by
  unfold xwrite at h
  by_cases hb : 0 ≤ q.1 ∧ q.2 < es.length
  · rw [if_pos hb] at h
    have hin : vp_in i es.length := vp_in_iff.mpr ⟨by omega, by omega⟩
    have hn : i.toNatClampNeg = i.toInt.toNat := rfl
    refine ⟨hin, ?_⟩
    by_cases he : q.1 = q.2
    · rw [if_pos he] at h
      cases h
      have hq : q.1.toNat = i.toInt.toNat := by omega
      rw [hn, ← hq]
      refine ⟨by simp, fun j y hy => ⟨fun ej u hu => ?_, fun nj => ?_⟩⟩
      · subst ej
        rw [List.getElem?_set_self (by omega)] at hy
        cases hy
        exact hu
      · rw [List.getElem?_set_ne (Ne.symm nj)] at hy
        exact ⟨y, hy, fun _ hu => hu⟩
    · rw [if_neg he] at h
      obtain ⟨i1, i2⟩ := xwr_in (as := as) (ex := ex) h
      refine ⟨i1, fun j y hy => ?_⟩
      obtain ⟨y0, a1, a2, a3⟩ := i2 j y hy
      exact ⟨fun ej u hu => a3 (by rw [ej, hn]; omega) (by rw [ej, hn]; omega) u hu, fun _ => ⟨y0, a1, a2⟩⟩
  · rw [if_neg hb] at h
    cases h
/-- which answer a method has that returns so -/
def xrt : Instr → Option FieldType → Prop
  | .ireturn, t => t = some .int ∨ t = some .boolean
  | .lreturn, t => t = some .long
  | .areturn, t => ∃ C, t = some (.object C)
  | .return_, t => t = none
  | _, _ => False
def xo_in (as ex : List Nat) : Option XV → Option Value → Prop
  | none, v => v = none
  | some x, v => ∃ u, v = some u ∧ xv_in as ex x u
def xrk : Instr → Option Value → Prop
  | .ireturn, v => ∃ x : Int32, v = some (.int x)
  | .lreturn, v => ∃ x : Int64, v = some (.long x)
  | .areturn, v => v = some .null ∨ ∃ a : Nat, v = some (.ref a)
  | .return_, v => v = none
  | _, _ => False
section XT
variable (p : Program) (l : Launch) (e : Env) (R : Room) (s : State) (m : MethodId) (args : Array Value) (below : List Frame) (meth : Method) (c : Code) (Q : State → Prop) (cc : ByteArray) (nL : Nat) (D : va_G) (cl : List vw_C) (tA : Nat → ClassId) (A : Nat → Prop) (as0 ex : List Nat) (ret : Option FieldType)
def XAt (lv : XL) (st : List XV) (w : XW) (H : Heap) (locs : List Loc) (ls : Array Slot) (vs : List Value) (lw : List (Nat × Value)) (ws : va_W) : Prop :=
  xk_in (xad ws) ex lv lw ∧ xl_in (xad ws) ex st vs ∧ xw_in ex tA w ws ∧ va_P D cl ws H ∧ va_D A ws ∧ va_S A s.heap H locs ∧ lv_has ls nL lw ∧ ∃ t, xad ws = as0 ++ t
def XSat (S : XS) : Prop := ∀ (H : Heap) (locs : List Loc) (ls : Array Slot) (vs : List Value) (lw : List (Nat × Value)) (ws : va_W), XAt s nL D cl tA A as0 ex S.2.1 S.2.2.1 S.2.2.2.1 H locs ls vs lw ws → W p l e R s m args below meth c H locs S.2.2.2.2.1 S.2.2.2.2.2 Q (F0 m S.1 ls vs)
def XRet (r : Option XV × XW × Nat × Nat) : Prop := ∀ (pc : Nat) (i : Instr) (H : Heap) (locs : List Loc) (ls : Array Slot) (rv : Option Value) (ws : va_W), decode cc pc = .ok (i, 1) → xrt i ret → xrk i rv → xo_in (xad ws) ex r.1 rv → (xz ret = true → ∀ x : Int32, rv = some (.int x) → x = 0 ∨ x = 1) → xw_in ex tA r.2.1 ws → va_P D cl ws H → va_D A ws → va_S A s.heap H locs → (∃ t, xad ws = as0 ++ t) → W p l e R s m args below meth c H locs r.2.2.1 r.2.2.2 Q (F0 m pc ls rv.toList)
def XRs : XR → Prop
  | .inl S => XSat p l e R s m args below meth c Q nL D cl tA A as0 ex S
  | .inr r => XRet p l e R s m args below meth c Q cc D cl tA A as0 ex ret r
end XT
section XO
variable {p : Program} {l : Launch} {e : Env} {R : Room} {s : State} {m : MethodId} {args : Array Value} {below : List Frame} {meth : Method} {c : Code} {Q : State → Prop} {cc : ByteArray} {nL : Nat} {D : va_G} {cl : List vw_C} {tA : Nat → ClassId} {A : Nat → Prop} {as0 ex : List Nat} {ret : Option FieldType} {pc : Nat} {lv : XL} {st : List XV} {w : XW} {k n : Nat} {r : XR}
theorem xo_push {d : Nat} {v : XV} {val : Value} (hv : ∀ as : List Nat, xv_in as ex v val) (h : xh_push d v pc lv st w k n = some r) (hr : XRs p l e R s m args below meth c Q cc nL D cl tA A as0 ex ret r) (row : ∀ (H : Heap) (locs : List Loc) (ls : Array Slot) (vs : List Value), va_S A s.heap H locs → W p l e R s m args below meth c H locs k n Q (F0 m (pc + d) ls (val :: vs)) → W p l e R s m args below meth c H locs k n Q (F0 m pc ls vs)) : XSat p l e R s m args below meth c Q nL D cl tA A as0 ex (pc, lv, st, w, k, n) := by
  cases h
  intro H locs ls vs lw ws ⟨h1, h2, h3, h4, h5, h6, h7, h8⟩
  exact row H locs ls vs h6 (hr H locs ls (val :: vs) lw ws ⟨h1, ⟨val, vs, rfl, hv _, h2⟩, h3, h4, h5, h6, h7, h8⟩)
theorem xo_load {kd d j : Nat} (h : xh_load kd d j pc lv st w k n = some r) (hr : XRs p l e R s m args below meth c Q cc nL D cl tA A as0 ex ret r) (row : ∀ (v : Value) (H : Heap) (locs : List Loc) (ls : Array Slot) (vs : List Value), xvk kd v → ls[j]? = some (.val v) → W p l e R s m args below meth c H locs k n Q (F0 m (pc + d) ls (v :: vs)) → W p l e R s m args below meth c H locs k n Q (F0 m pc ls vs)) : XSat p l e R s m args below meth c Q nL D cl tA A as0 ex (pc, lv, st, w, k, n) := by
  unfold xh_load at h
  cases hx : xk_get lv j with
  | none => rw [hx] at h; cases h
  | some x =>
    rw [hx] at h
    dsimp only at h
    by_cases hk : xkd x = kd
    · rw [if_pos hk] at h
      cases h
      intro H locs ls vs lw ws ⟨h1, h2, h3, h4, h5, h6, h7, h8⟩
      obtain ⟨q, v, hq, hv⟩ := h1.get hx
      exact row v H locs ls vs (hk ▸ hv.vk) (lv_at h7 q hq) (hr H locs ls (v :: vs) lw ws ⟨h1, ⟨v, vs, rfl, hv, h2⟩, h3, h4, h5, h6, h7, h8⟩)
    · rw [if_neg hk] at h
      cases h
theorem xo_store {kd d j : Nat} (h : xh_store kd d j nL pc lv st w k n = some r) (hr : XRs p l e R s m args below meth c Q cc nL D cl tA A as0 ex ret r) (row : ∀ (v : Value) (H : Heap) (locs : List Loc) (ls : Array Slot) (vs : List Value) (lw : List (Nat × Value)), xvk kd v → lv_has ls nL lw → j < nL → (∀ ls' : Array Slot, lv_has ls' nL ((j, v) :: lw.filter (fun q => !(q.1 == j) && !(q.1 + 1 == j && q.2.category == 2))) → W p l e R s m args below meth c H locs k n Q (F0 m (pc + d) ls' vs)) → W p l e R s m args below meth c H locs k n Q (F0 m pc ls (v :: vs))) : XSat p l e R s m args below meth c Q nL D cl tA A as0 ex (pc, lv, st, w, k, n) := by
  cases st with
  | nil => cases h
  | cons x st =>
    unfold xh_store at h
    dsimp only at h
    by_cases hk : xkd x = kd ∧ j < nL
    · rw [if_pos hk] at h
      cases h
      intro H locs ls vs lw ws ⟨h1, h2, h3, h4, h5, h6, h7, h8⟩
      obtain ⟨v, vs', rfl, hv, h2⟩ := h2
      exact row v H locs ls vs' lw (hk.1 ▸ hv.vk) h7 hk.2 (fun ls' hl' => hr H locs ls' vs' _ ws ⟨h1.set1 hv, h2, h3, h4, h5, h6, hl', h8⟩)
    · rw [if_neg hk] at h
      cases h
theorem xo_store2 {d j : Nat} (h : xh_store2 d j nL pc lv st w k n = some r) (hr : XRs p l e R s m args below meth c Q cc nL D cl tA A as0 ex ret r) (row : ∀ (v : Value) (H : Heap) (locs : List Loc) (ls : Array Slot) (vs : List Value) (lw : List (Nat × Value)), xvk 1 v → lv_has ls nL lw → j + 1 < nL → (∀ ls' : Array Slot, lv_has ls' nL ((j, v) :: lw.filter (fun q => !(q.1 == j) && (!(q.1 == j + 1) && !(q.1 + 1 == j && q.2.category == 2)))) → W p l e R s m args below meth c H locs k n Q (F0 m (pc + d) ls' vs)) → W p l e R s m args below meth c H locs k n Q (F0 m pc ls (v :: vs))) : XSat p l e R s m args below meth c Q nL D cl tA A as0 ex (pc, lv, st, w, k, n) := by
  cases st with
  | nil => cases h
  | cons x st =>
    unfold xh_store2 at h
    dsimp only at h
    by_cases hk : xkd x = 1 ∧ j + 1 < nL
    · rw [if_pos hk] at h
      cases h
      intro H locs ls vs lw ws ⟨h1, h2, h3, h4, h5, h6, h7, h8⟩
      obtain ⟨v, vs', rfl, hv, h2⟩ := h2
      exact row v H locs ls vs' lw (hk.1 ▸ hv.vk) h7 hk.2 (fun ls' hl' => hr H locs ls' vs' _ ws ⟨h1.set2 hv, h2, h3, h4, h5, h6, hl', h8⟩)
    · rw [if_neg hk] at h
      cases h
theorem xo_iinc {j : Nat} {z : Int} {g : Int} (hx : p.tables.exec = Jvm.exec) (hb : c.code = cc) (hd : decode cc pc = .ok (.iinc j g, 3)) (hz : (Int32.ofInt g).toInt = z) (h : xh_iinc j nL z pc lv st w k n = some r) (hr : XRs p l e R s m args below meth c Q cc nL D cl tA A as0 ex ret r) : XSat p l e R s m args below meth c Q nL D cl tA A as0 ex (pc, lv, st, w, k, n) := by
  unfold xh_iinc at h
  cases hk : xk_get lv j with
  | none => rw [hk] at h; cases h
  | some x =>
    rw [hk] at h
    match x, hk, h with
    | .inr _, _, h => cases h
    | .inl q, hk, h =>
      dsimp only at h
      by_cases hj : j < nL
      · rw [if_pos hj] at h
        cases h
        intro H locs ls vs lw ws ⟨h1, h2, h3, h4, h5, h6, h7, h8⟩
        obtain ⟨i, v, hi, x, rfl, b1, b2⟩ := h1.get hk
        refine lv_iinc (v := x + Int32.ofInt g) hx hb hd h7 hi rfl hj rfl (fun ls' hl' => ?_)
        have hb3 := xadd_in q (z, z) x (Int32.ofInt g) b1 b2 (by rw [hz]; exact Int.le_refl _) (by rw [hz]; exact Int.le_refl _)
        exact hr H locs ls' vs _ ws ⟨h1.set1 ⟨x + Int32.ofInt g, rfl, hb3⟩, h2, h3, h4, h5, h6, hl', h8⟩
      · rw [if_neg hj] at h
        cases h
theorem xo_bin {f : Int × Int → Int × Int → Int × Int} {g : Int32 → Int32 → Int32} (hf : xin2 f g) (h : xh_bin f pc lv st w k n = some r) (hr : XRs p l e R s m args below meth c Q cc nL D cl tA A as0 ex ret r) (row : ∀ (x y : Int32) (H : Heap) (locs : List Loc) (ls : Array Slot) (vs : List Value), W p l e R s m args below meth c H locs k n Q (F0 m (pc + 1) ls (.int (g x y) :: vs)) → W p l e R s m args below meth c H locs k n Q (F0 m pc ls (.int y :: .int x :: vs))) : XSat p l e R s m args below meth c Q nL D cl tA A as0 ex (pc, lv, st, w, k, n) := by
  match st, h with
  | .inl q :: .inl p0 :: st, h =>
    cases h
    intro H locs ls vs lw ws ⟨h1, h2, h3, h4, h5, h6, h7, h8⟩
    obtain ⟨_, _, rfl, ⟨y, rfl, y1, y2⟩, _, vs', rfl, ⟨x, rfl, x1, x2⟩, h2⟩ := h2
    exact row x y H locs ls vs' (hr H locs ls _ lw ws ⟨h1, ⟨_, vs', rfl, ⟨g x y, rfl, hf p0 q x y x1 x2 y1 y2⟩, h2⟩, h3, h4, h5, h6, h7, h8⟩)
theorem xo_div {f : Int × Int → Int × Int → Int × Int} {g : Int32 → Int32 → Int32} (hf : xin2 f g) (h : xh_div f pc lv st w k n = some r) (hr : XRs p l e R s m args below meth c Q cc nL D cl tA A as0 ex ret r) (row : ∀ (x y : Int32) (H : Heap) (locs : List Loc) (ls : Array Slot) (vs : List Value), ¬ y = 0 → W p l e R s m args below meth c H locs k n Q (F0 m (pc + 1) ls (.int (g x y) :: vs)) → W p l e R s m args below meth c H locs k n Q (F0 m pc ls (.int y :: .int x :: vs))) : XSat p l e R s m args below meth c Q nL D cl tA A as0 ex (pc, lv, st, w, k, n) := by
  match st, h with
  | .inl q :: .inl p0 :: st, h =>
    unfold xh_div at h
    dsimp only at h
    by_cases hq : 0 < q.1 ∨ q.2 < 0
    · rw [if_pos hq] at h
      cases h
      intro H locs ls vs lw ws ⟨h1, h2, h3, h4, h5, h6, h7, h8⟩
      obtain ⟨_, _, rfl, ⟨y, rfl, y1, y2⟩, _, vs', rfl, ⟨x, rfl, x1, x2⟩, h2⟩ := h2
      have hy : ¬ y = 0 := fun e0 => by
        rw [e0] at y1 y2
        have z : (0 : Int32).toInt = 0 := rfl
        omega
      exact row x y H locs ls vs' hy (hr H locs ls _ lw ws ⟨h1, ⟨_, vs', rfl, ⟨g x y, rfl, hf p0 q x y x1 x2 y1 y2⟩, h2⟩, h3, h4, h5, h6, h7, h8⟩)
    · rw [if_neg hq] at h
      cases h
theorem xo_un {g : Int32 → Int32} (h : xh_un (xe1 g) pc lv st w k n = some r) (hr : XRs p l e R s m args below meth c Q cc nL D cl tA A as0 ex ret r) (row : ∀ (x : Int32) (H : Heap) (locs : List Loc) (ls : Array Slot) (vs : List Value), W p l e R s m args below meth c H locs k n Q (F0 m (pc + 1) ls (.int (g x) :: vs)) → W p l e R s m args below meth c H locs k n Q (F0 m pc ls (.int x :: vs))) : XSat p l e R s m args below meth c Q nL D cl tA A as0 ex (pc, lv, st, w, k, n) := by
  match st, h with
  | .inl p0 :: st, h =>
    cases h
    intro H locs ls vs lw ws ⟨h1, h2, h3, h4, h5, h6, h7, h8⟩
    obtain ⟨_, vs', rfl, ⟨x, rfl, x1, x2⟩, h2⟩ := h2
    exact row x H locs ls vs' (hr H locs ls _ lw ws ⟨h1, ⟨_, vs', rfl, ⟨g x, rfl, xe1_in g p0 x x1 x2⟩, h2⟩, h3, h4, h5, h6, h7, h8⟩)
theorem xo_lneg (h : xh_lneg pc lv st w k n = some r) (hr : XRs p l e R s m args below meth c Q cc nL D cl tA A as0 ex ret r) (row : ∀ (x : Int64) (H : Heap) (locs : List Loc) (ls : Array Slot) (vs : List Value), W p l e R s m args below meth c H locs k n Q (F0 m (pc + 1) ls (.long (-x) :: vs)) → W p l e R s m args below meth c H locs k n Q (F0 m pc ls (.long x :: vs))) : XSat p l e R s m args below meth c Q nL D cl tA A as0 ex (pc, lv, st, w, k, n) := by
  match st, h with
  | .inr (.inl (some a)) :: st, h =>
    cases h
    intro H locs ls vs lw ws ⟨h1, h2, h3, h4, h5, h6, h7, h8⟩
    obtain ⟨_, vs', rfl, ⟨x, rfl, hx⟩, h2⟩ := h2
    refine row x H locs ls vs' (hr H locs ls _ lw ws ⟨h1, ⟨_, vs', rfl, ⟨-x, rfl, fun z hz => ?_⟩, h2⟩, h3, h4, h5, h6, h7, h8⟩)
    rw [x_oneL hx] at hz
    exact Option.some.inj hz
  | .inr (.inl none) :: st, h =>
    cases h
    intro H locs ls vs lw ws ⟨h1, h2, h3, h4, h5, h6, h7, h8⟩
    obtain ⟨_, vs', rfl, ⟨x, rfl, hx⟩, h2⟩ := h2
    exact row x H locs ls vs' (hr H locs ls _ lw ws ⟨h1, ⟨_, vs', rfl, ⟨-x, rfl, fun z hz => by cases hz⟩, h2⟩, h3, h4, h5, h6, h7, h8⟩)
theorem xo_lbin {g : Int64 → Int64 → Int64} (h : xh_lbin (xl2 g) pc lv st w k n = some r) (hr : XRs p l e R s m args below meth c Q cc nL D cl tA A as0 ex ret r) (row : ∀ (x y : Int64) (H : Heap) (locs : List Loc) (ls : Array Slot) (vs : List Value), W p l e R s m args below meth c H locs k n Q (F0 m (pc + 1) ls (.long (g x y) :: vs)) → W p l e R s m args below meth c H locs k n Q (F0 m pc ls (.long y :: .long x :: vs))) : XSat p l e R s m args below meth c Q nL D cl tA A as0 ex (pc, lv, st, w, k, n) := by
  match st, h with
  | .inr (.inl q) :: .inr (.inl p0) :: st, h =>
    cases h
    intro H locs ls vs lw ws ⟨h1, h2, h3, h4, h5, h6, h7, h8⟩
    obtain ⟨_, _, rfl, ⟨y, rfl, hy⟩, _, vs', rfl, ⟨x, rfl, hx⟩, h2⟩ := h2
    exact row x y H locs ls vs' (hr H locs ls _ lw ws ⟨h1, ⟨_, vs', rfl, ⟨g x y, rfl, xl2_in g hx hy⟩, h2⟩, h3, h4, h5, h6, h7, h8⟩)
theorem xo_ldiv {g : Int64 → Int64 → Int64} (h : xh_ldiv (xl2 g) pc lv st w k n = some r) (hr : XRs p l e R s m args below meth c Q cc nL D cl tA A as0 ex ret r) (row : ∀ (x y : Int64) (H : Heap) (locs : List Loc) (ls : Array Slot) (vs : List Value), ¬ y = 0 → W p l e R s m args below meth c H locs k n Q (F0 m (pc + 1) ls (.long (g x y) :: vs)) → W p l e R s m args below meth c H locs k n Q (F0 m pc ls (.long y :: .long x :: vs))) : XSat p l e R s m args below meth c Q nL D cl tA A as0 ex (pc, lv, st, w, k, n) := by
  match st, h with
  | .inr (.inl (some b)) :: .inr (.inl p0) :: st, h =>
    unfold xh_ldiv at h
    dsimp only at h
    by_cases hq : b ≠ 0
    · rw [if_pos hq] at h
      cases h
      intro H locs ls vs lw ws ⟨h1, h2, h3, h4, h5, h6, h7, h8⟩
      obtain ⟨_, _, rfl, ⟨y, rfl, hy⟩, _, vs', rfl, ⟨x, rfl, hx⟩, h2⟩ := h2
      have hy0 : ¬ y = 0 := fun e0 => by
        have e1 := hy b rfl
        rw [e0] at e1
        have e2 : (0 : Int64).toInt = 0 := rfl
        rw [e2] at e1
        exact hq e1.symm
      exact row x y H locs ls vs' hy0 (hr H locs ls _ lw ws ⟨h1, ⟨_, vs', rfl, ⟨g x y, rfl, xl2_in g hx hy⟩, h2⟩, h3, h4, h5, h6, h7, h8⟩)
    · rw [if_neg hq] at h
      cases h
theorem xo_lsh {g : Int64 → Int32 → Int64} (h0 : ∀ y, g 0 y = 0) (h : xh_lsh (xls g) pc lv st w k n = some r) (hr : XRs p l e R s m args below meth c Q cc nL D cl tA A as0 ex ret r) (row : ∀ (x : Int64) (y : Int32) (H : Heap) (locs : List Loc) (ls : Array Slot) (vs : List Value), W p l e R s m args below meth c H locs k n Q (F0 m (pc + 1) ls (.long (g x y) :: vs)) → W p l e R s m args below meth c H locs k n Q (F0 m pc ls (.int y :: .long x :: vs))) : XSat p l e R s m args below meth c Q nL D cl tA A as0 ex (pc, lv, st, w, k, n) := by
  match st, h with
  | .inl q :: .inr (.inl p0) :: st, h =>
    cases h
    intro H locs ls vs lw ws ⟨h1, h2, h3, h4, h5, h6, h7, h8⟩
    obtain ⟨_, _, rfl, ⟨y, rfl, y1, y2⟩, _, vs', rfl, ⟨x, rfl, hx⟩, h2⟩ := h2
    exact row x y H locs ls vs' (hr H locs ls _ lw ws ⟨h1, ⟨_, vs', rfl, ⟨g x y, rfl, xls_in g h0 hx y1 y2⟩, h2⟩, h3, h4, h5, h6, h7, h8⟩)
theorem xo_i2l (h : xh_i2l pc lv st w k n = some r) (hr : XRs p l e R s m args below meth c Q cc nL D cl tA A as0 ex ret r) (row : ∀ (x : Int32) (H : Heap) (locs : List Loc) (ls : Array Slot) (vs : List Value), W p l e R s m args below meth c H locs k n Q (F0 m (pc + 1) ls (.long x.toInt64 :: vs)) → W p l e R s m args below meth c H locs k n Q (F0 m pc ls (.int x :: vs))) : XSat p l e R s m args below meth c Q nL D cl tA A as0 ex (pc, lv, st, w, k, n) := by
  match st, h with
  | .inl q :: st, h =>
    cases h
    intro H locs ls vs lw ws ⟨h1, h2, h3, h4, h5, h6, h7, h8⟩
    obtain ⟨_, vs', rfl, ⟨x, rfl, x1, x2⟩, h2⟩ := h2
    refine row x H locs ls vs' (hr H locs ls _ lw ws ⟨h1, ⟨_, vs', rfl, ⟨x.toInt64, rfl, fun z hz => ?_⟩, h2⟩, h3, h4, h5, h6, h7, h8⟩)
    rw [Int32.toInt_toInt64]
    by_cases he : q.1 = q.2
    · rw [if_pos he] at hz
      cases hz
      omega
    · rw [if_neg he] at hz
      cases hz
theorem xo_l2i (h : xh_l2i pc lv st w k n = some r) (hr : XRs p l e R s m args below meth c Q cc nL D cl tA A as0 ex ret r) (row : ∀ (x : Int64) (H : Heap) (locs : List Loc) (ls : Array Slot) (vs : List Value), W p l e R s m args below meth c H locs k n Q (F0 m (pc + 1) ls (.int x.toInt32 :: vs)) → W p l e R s m args below meth c H locs k n Q (F0 m pc ls (.long x :: vs))) : XSat p l e R s m args below meth c Q nL D cl tA A as0 ex (pc, lv, st, w, k, n) := by
  match st, h with
  | .inr (.inl (some a)) :: st, h =>
    cases h
    intro H locs ls vs lw ws ⟨h1, h2, h3, h4, h5, h6, h7, h8⟩
    obtain ⟨_, vs', rfl, ⟨x, rfl, hx⟩, h2⟩ := h2
    refine row x H locs ls vs' (hr H locs ls _ lw ws ⟨h1, ⟨_, vs', rfl, ⟨x.toInt32, rfl, ?_⟩, h2⟩, h3, h4, h5, h6, h7, h8⟩)
    rw [x_oneL hx]
    exact ⟨Int.le_refl _, Int.le_refl _⟩
  | .inr (.inl none) :: st, h =>
    cases h
    intro H locs ls vs lw ws ⟨h1, h2, h3, h4, h5, h6, h7, h8⟩
    obtain ⟨_, vs', rfl, ⟨x, rfl, hx⟩, h2⟩ := h2
    exact row x H locs ls vs' (hr H locs ls _ lw ws ⟨h1, ⟨_, vs', rfl, ⟨x.toInt32, rfl, x_rng _⟩, h2⟩, h3, h4, h5, h6, h7, h8⟩)
theorem x_cmpr (x y : Int64) : (lg_cmp x y).toInt = if x.toInt < y.toInt then -1 else if x.toInt = y.toInt then 0 else 1 := by
  unfold lg_cmp
  simp only [gt_iff_lt, Int64.lt_iff_toInt_lt, ← Int64.toInt_inj]
  repeat' split
  all_goals first | omega | rfl
theorem xo_lcmp (h : xh_lcmp pc lv st w k n = some r) (hr : XRs p l e R s m args below meth c Q cc nL D cl tA A as0 ex ret r) (row : ∀ (x y : Int64) (H : Heap) (locs : List Loc) (ls : Array Slot) (vs : List Value), W p l e R s m args below meth c H locs k n Q (F0 m (pc + 1) ls (.int (lg_cmp x y) :: vs)) → W p l e R s m args below meth c H locs k n Q (F0 m pc ls (.long y :: .long x :: vs))) : XSat p l e R s m args below meth c Q nL D cl tA A as0 ex (pc, lv, st, w, k, n) := by
  have any : ∀ (a b : Option Int) (st' : List XV), st = .inr (.inl b) :: .inr (.inl a) :: st' → r = .inl (pc + 1, lv, .inl (-1, 1) :: st', w, k, n) → XSat p l e R s m args below meth c Q nL D cl tA A as0 ex (pc, lv, st, w, k, n) := by
    intro a b st' e1 e2
    subst e1; subst e2
    intro H locs ls vs lw ws ⟨h1, h2, h3, h4, h5, h6, h7, h8⟩
    obtain ⟨_, _, rfl, ⟨y, rfl, hy⟩, _, vs', rfl, ⟨x, rfl, hx⟩, h2⟩ := h2
    refine row x y H locs ls vs' (hr H locs ls _ lw ws ⟨h1, ⟨_, vs', rfl, ⟨lg_cmp x y, rfl, ?_⟩, h2⟩, h3, h4, h5, h6, h7, h8⟩)
    rw [x_cmpr]
    repeat' split
    all_goals (constructor <;> decide)
  match st, h with
  | .inr (.inl (some b)) :: .inr (.inl (some a)) :: st, h =>
    cases h
    intro H locs ls vs lw ws ⟨h1, h2, h3, h4, h5, h6, h7, h8⟩
    obtain ⟨_, _, rfl, ⟨y, rfl, hy⟩, _, vs', rfl, ⟨x, rfl, hx⟩, h2⟩ := h2
    refine row x y H locs ls vs' (hr H locs ls _ lw ws ⟨h1, ⟨_, vs', rfl, ⟨lg_cmp x y, rfl, ?_⟩, h2⟩, h3, h4, h5, h6, h7, h8⟩)
    rw [x_cmpr, hx a rfl, hy b rfl]
    exact ⟨Int.le_refl _, Int.le_refl _⟩
  | .inr (.inl none) :: .inr (.inl a) :: st, h => exact any a none st rfl (Option.some.inj h).symm
  | .inr (.inl (some b)) :: .inr (.inl none) :: st, h => exact any none (some b) st rfl (Option.some.inj h).symm
theorem xo_pop {cat : Nat} (h : xh_pop cat pc lv st w k n = some r) (hr : XRs p l e R s m args below meth c Q cc nL D cl tA A as0 ex ret r) (row : ∀ (v : Value) (H : Heap) (locs : List Loc) (ls : Array Slot) (vs : List Value), v.category = cat → W p l e R s m args below meth c H locs k n Q (F0 m (pc + 1) ls vs) → W p l e R s m args below meth c H locs k n Q (F0 m pc ls (v :: vs))) : XSat p l e R s m args below meth c Q nL D cl tA A as0 ex (pc, lv, st, w, k, n) := by
  match st, h with
  | x :: st, h =>
    unfold xh_pop at h
    dsimp only at h
    by_cases hc : xcat x = cat
    · rw [if_pos hc] at h
      cases h
      intro H locs ls vs lw ws ⟨h1, h2, h3, h4, h5, h6, h7, h8⟩
      obtain ⟨v, vs', rfl, hv, h2⟩ := h2
      exact row v H locs ls vs' (hv.cat.trans hc) (hr H locs ls _ lw ws ⟨h1, h2, h3, h4, h5, h6, h7, h8⟩)
    · rw [if_neg hc] at h
      cases h
theorem xo_dup (h : xh_dup pc lv st w k n = some r) (hr : XRs p l e R s m args below meth c Q cc nL D cl tA A as0 ex ret r) (row : ∀ (v : Value) (H : Heap) (locs : List Loc) (ls : Array Slot) (vs : List Value), v.category = 1 → W p l e R s m args below meth c H locs k n Q (F0 m (pc + 1) ls (v :: v :: vs)) → W p l e R s m args below meth c H locs k n Q (F0 m pc ls (v :: vs))) : XSat p l e R s m args below meth c Q nL D cl tA A as0 ex (pc, lv, st, w, k, n) := by
  match st, h with
  | x :: st, h =>
    unfold xh_dup at h
    dsimp only at h
    by_cases hc : xcat x = 1
    · rw [if_pos hc] at h
      cases h
      intro H locs ls vs lw ws ⟨h1, h2, h3, h4, h5, h6, h7, h8⟩
      obtain ⟨v, vs', rfl, hv, h2⟩ := h2
      exact row v H locs ls vs' (hv.cat.trans hc) (hr H locs ls _ lw ws ⟨h1, ⟨v, _, rfl, hv, v, vs', rfl, hv, h2⟩, h3, h4, h5, h6, h7, h8⟩)
    · rw [if_neg hc] at h
      cases h
theorem x_cat1 {x : XV} (h : ¬ xcat x = 2) : xcat x = 1 := by
  match x, h with
  | .inl _, _ => rfl
  | .inr (.inl _), h => exact absurd rfl h
  | .inr (.inr _), _ => rfl
theorem xo_dup2 (hx : p.tables.exec = Jvm.exec) (hb : c.code = cc) (hd : decode cc pc = .ok (.dup2, 1)) (h : xh_dup2 pc lv st w k n = some r) (hr : XRs p l e R s m args below meth c Q cc nL D cl tA A as0 ex ret r) : XSat p l e R s m args below meth c Q nL D cl tA A as0 ex (pc, lv, st, w, k, n) := by
  match st, h with
  | x :: st, h =>
    unfold xh_dup2 at h
    dsimp only at h
    by_cases hc : xcat x = 2
    · rw [if_pos hc] at h
      cases h
      intro H locs ls vs lw ws ⟨h1, h2, h3, h4, h5, h6, h7, h8⟩
      obtain ⟨v, vs', rfl, hv, h2⟩ := h2
      exact lv_dup2_2 hx hb hd (hv.cat.trans hc) (hr H locs ls _ lw ws ⟨h1, ⟨v, _, rfl, hv, v, vs', rfl, hv, h2⟩, h3, h4, h5, h6, h7, h8⟩)
    · rw [if_neg hc] at h
      match st, h with
      | y :: st, h =>
        dsimp only at h
        by_cases hy : xcat y = 1
        · rw [if_pos hy] at h
          cases h
          intro H locs ls vs lw ws ⟨h1, h2, h3, h4, h5, h6, h7, h8⟩
          obtain ⟨v, _, rfl, hv, u, vs', rfl, hu, h2⟩ := h2
          exact lv_dup2_11 hx hb hd (hv.cat.trans (x_cat1 hc)) (hu.cat.trans hy) (hr H locs ls _ lw ws ⟨h1, ⟨v, _, rfl, hv, u, _, rfl, hu, v, _, rfl, hv, u, vs', rfl, hu, h2⟩, h3, h4, h5, h6, h7, h8⟩)
        · rw [if_neg hy] at h
          cases h
/-- a branch that is decided -/
theorem xo_br {P : Prop} {o : Option Bool} {tgt : Nat} {st' : List XV} {H : Heap} {locs : List Loc} {ls : Array Slot} {vs : List Value} {lw : List (Nat × Value)} {ws : va_W} (ho : ∀ b, o = some b → (P ↔ b = true)) (h : xh_br o tgt pc lv st' w k n = some r) (hr : XRs p l e R s m args below meth c Q cc nL D cl tA A as0 ex ret r) (hat : XAt s nL D cl tA A as0 ex lv st' w H locs ls vs lw ws) : (P → W p l e R s m args below meth c H locs k n Q (F0 m tgt ls vs)) ∧ (¬ P → W p l e R s m args below meth c H locs k n Q (F0 m (pc + 3) ls vs)) := by
  match o, h with
  | some true, h =>
    cases h
    exact ⟨fun _ => hr H locs ls vs lw ws hat, fun hn => absurd ((ho true rfl).mpr rfl) hn⟩
  | some false, h =>
    cases h
    exact ⟨fun hp => (by cases (ho false rfl).mp hp), fun _ => hr H locs ls vs lw ws hat⟩
theorem xo_if {q : ClassFile.Cond} {off : Int} {tgt : Nat} (hx : p.tables.exec = Jvm.exec) (hb : c.code = cc) (hd : decode cc pc = .ok (.ifCond q off, 3)) (ht : (pc : Int) + off = (tgt : Int)) (h : xh_if q tgt pc lv st w k n = some r) (hr : XRs p l e R s m args below meth c Q cc nL D cl tA A as0 ex ret r) : XSat p l e R s m args below meth c Q nL D cl tA A as0 ex (pc, lv, st, w, k, n) := by
  match st, h with
  | .inl p0 :: st, h =>
    intro H locs ls vs lw ws ⟨h1, h2, h3, h4, h5, h6, h7, h8⟩
    obtain ⟨_, vs', rfl, ⟨x, rfl, x1, x2⟩, h2⟩ := h2
    have h : xh_br (xcmp q p0 (0, 0)) tgt pc lv st w k n = some r := h
    have hat : XAt s nL D cl tA A as0 ex lv st w H locs ls vs' lw ws := ⟨h1, h2, h3, h4, h5, h6, h7, h8⟩
    have z1 : ((0 : Int), (0 : Int)).1 ≤ (0 : Int32).toInt := Int.le_refl _
    have z2 : (0 : Int32).toInt ≤ ((0 : Int), (0 : Int)).2 := Int.le_refl _
    cases q with
    | eq =>
      obtain ⟨a, b⟩ := xo_br (P := x = 0) (fun b hb' => xeq_in x1 x2 z1 z2 hb') h hr hat
      exact lv_if_eq hx hb hd ht a b
    | ne =>
      obtain ⟨a, b⟩ := xo_br (P := ¬ x = 0) (fun b hb' => xno_in hb' (fun _ hb' => xeq_in x1 x2 z1 z2 hb')) h hr hat
      exact lv_if_ne hx hb hd ht a (fun hh => b (fun hn => hn hh))
    | lt =>
      obtain ⟨a, b⟩ := xo_br (P := x < 0) (fun b hb' => xlt_in x1 x2 z1 z2 hb') h hr hat
      exact lv_if_lt hx hb hd ht a b
    | ge =>
      obtain ⟨a, b⟩ := xo_br (P := ¬ x < 0) (fun b hb' => xno_in hb' (fun _ hb' => xlt_in x1 x2 z1 z2 hb')) h hr hat
      exact lv_if_ge hx hb hd ht (fun hh => a (Int32.not_lt.mpr hh)) (fun hh => b (fun h2 => hh (Int32.not_lt.mp h2)))
    | gt =>
      obtain ⟨a, b⟩ := xo_br (P := 0 < x) (fun b hb' => xlt_in z1 z2 x1 x2 hb') h hr hat
      exact lv_if_gt hx hb hd ht a b
    | le =>
      obtain ⟨a, b⟩ := xo_br (P := ¬ 0 < x) (fun b hb' => xno_in hb' (fun _ hb' => xlt_in z1 z2 x1 x2 hb')) h hr hat
      exact lv_if_le hx hb hd ht (fun hh => a (Int32.not_lt.mpr hh)) (fun hh => b (fun h2 => hh (Int32.not_lt.mp h2)))
theorem xo_icmp {q : ClassFile.Cond} {off : Int} {tgt : Nat} (hx : p.tables.exec = Jvm.exec) (hb : c.code = cc) (hd : decode cc pc = .ok (.if_icmp q off, 3)) (ht : (pc : Int) + off = (tgt : Int)) (h : xh_icmp q tgt pc lv st w k n = some r) (hr : XRs p l e R s m args below meth c Q cc nL D cl tA A as0 ex ret r) : XSat p l e R s m args below meth c Q nL D cl tA A as0 ex (pc, lv, st, w, k, n) := by
  match st, h with
  | .inl q0 :: .inl p0 :: st, h =>
    intro H locs ls vs lw ws ⟨h1, h2, h3, h4, h5, h6, h7, h8⟩
    obtain ⟨_, _, rfl, ⟨y, rfl, z1, z2⟩, _, vs', rfl, ⟨x, rfl, x1, x2⟩, h2⟩ := h2
    have h : xh_br (xcmp q p0 q0) tgt pc lv st w k n = some r := h
    have hat : XAt s nL D cl tA A as0 ex lv st w H locs ls vs' lw ws := ⟨h1, h2, h3, h4, h5, h6, h7, h8⟩
    cases q with
    | eq =>
      obtain ⟨a, b⟩ := xo_br (P := x = y) (fun b hb' => xeq_in x1 x2 z1 z2 hb') h hr hat
      exact lv_icmp_eq hx hb hd ht a b
    | ne =>
      obtain ⟨a, b⟩ := xo_br (P := ¬ x = y) (fun b hb' => xno_in hb' (fun _ hb' => xeq_in x1 x2 z1 z2 hb')) h hr hat
      exact lv_icmp_ne hx hb hd ht a (fun hh => b (fun hn => hn hh))
    | lt =>
      obtain ⟨a, b⟩ := xo_br (P := x < y) (fun b hb' => xlt_in x1 x2 z1 z2 hb') h hr hat
      exact lv_icmp_lt hx hb hd ht a b
    | ge =>
      obtain ⟨a, b⟩ := xo_br (P := ¬ x < y) (fun b hb' => xno_in hb' (fun _ hb' => xlt_in x1 x2 z1 z2 hb')) h hr hat
      exact lv_icmp_ge hx hb hd ht (fun hh => a (Int32.not_lt.mpr hh)) (fun hh => b (fun h2 => hh (Int32.not_lt.mp h2)))
    | gt =>
      obtain ⟨a, b⟩ := xo_br (P := y < x) (fun b hb' => xlt_in z1 z2 x1 x2 hb') h hr hat
      exact lv_icmp_gt hx hb hd ht a b
    | le =>
      obtain ⟨a, b⟩ := xo_br (P := ¬ y < x) (fun b hb' => xno_in hb' (fun _ hb' => xlt_in z1 z2 x1 x2 hb')) h hr hat
      exact lv_icmp_le hx hb hd ht (fun hh => a (Int32.not_lt.mpr hh)) (fun hh => b (fun h2 => hh (Int32.not_lt.mp h2)))
theorem xo_ifnull {off : Int} {tgt : Nat} (hx : p.tables.exec = Jvm.exec) (hb : c.code = cc) (hd : decode cc pc = .ok (.ifnull off, 3)) (ht : (pc : Int) + off = (tgt : Int)) (h : xh_null false tgt pc lv st w k n = some r) (hr : XRs p l e R s m args below meth c Q cc nL D cl tA A as0 ex ret r) : XSat p l e R s m args below meth c Q nL D cl tA A as0 ex (pc, lv, st, w, k, n) := by
  match st, h with
  | .inr (.inr q) :: st, h =>
    intro H locs ls vs lw ws ⟨h1, h2, h3, h4, h5, h6, h7, h8⟩
    obtain ⟨v, vs', rfl, hv, h2⟩ := h2
    have hat : XAt s nL D cl tA A as0 ex lv st w H locs ls vs' lw ws := ⟨h1, h2, h3, h4, h5, h6, h7, h8⟩
    unfold xh_null at h
    dsimp only at h
    rcases hv with ⟨h0, rfl⟩ | ⟨a, rfl, ha⟩
    · rw [if_neg (by rw [h0]; decide)] at h
      cases h
      exact lv_ifnullN hx hb hd ht (hr H locs ls vs' lw ws hat)
    · have hq : (q.1 == 0) = false := by
        rcases ha with ⟨e1, _⟩ | ⟨e1, _⟩ <;> rw [e1] <;> rfl
      rw [if_pos (by rw [hq]; decide)] at h
      cases h
      exact lv_ifnull hx hb hd (hr H locs ls vs' lw ws hat)
theorem xo_ifnonnull {off : Int} {tgt : Nat} (hx : p.tables.exec = Jvm.exec) (hb : c.code = cc) (hd : decode cc pc = .ok (.ifnonnull off, 3)) (ht : (pc : Int) + off = (tgt : Int)) (h : xh_null true tgt pc lv st w k n = some r) (hr : XRs p l e R s m args below meth c Q cc nL D cl tA A as0 ex ret r) : XSat p l e R s m args below meth c Q nL D cl tA A as0 ex (pc, lv, st, w, k, n) := by
  match st, h with
  | .inr (.inr q) :: st, h =>
    intro H locs ls vs lw ws ⟨h1, h2, h3, h4, h5, h6, h7, h8⟩
    obtain ⟨v, vs', rfl, hv, h2⟩ := h2
    have hat : XAt s nL D cl tA A as0 ex lv st w H locs ls vs' lw ws := ⟨h1, h2, h3, h4, h5, h6, h7, h8⟩
    unfold xh_null at h
    dsimp only at h
    rcases hv with ⟨h0, rfl⟩ | ⟨a, rfl, ha⟩
    · rw [if_pos (by rw [h0]; decide)] at h
      cases h
      exact lv_ifnonnullN hx hb hd (hr H locs ls vs' lw ws hat)
    · have hq : (q.1 == 0) = false := by
        rcases ha with ⟨e1, _⟩ | ⟨e1, _⟩ <;> rw [e1] <;> rfl
      rw [if_neg (by rw [hq]; decide)] at h
      cases h
      exact lv_ifnonnull hx hb hd ht (hr H locs ls vs' lw ws hat)
theorem xo_table {dflt lo hi : Int} {offs : Array Int} {len : Nat} (hx : p.tables.exec = Jvm.exec) (hb : c.code = cc) (hd : decode cc pc = .ok (.tableswitch dflt lo hi offs, len)) (h : xh_table dflt lo hi offs pc lv st w k n = some r) (hr : XRs p l e R s m args below meth c Q cc nL D cl tA A as0 ex ret r) : XSat p l e R s m args below meth c Q nL D cl tA A as0 ex (pc, lv, st, w, k, n) := by
  match st, h with
  | .inl q :: st, h =>
    intro H locs ls vs lw ws ⟨h1, h2, h3, h4, h5, h6, h7, h8⟩
    obtain ⟨_, vs', rfl, ⟨x, rfl, x1, x2⟩, h2⟩ := h2
    have hat : XAt s nL D cl tA A as0 ex lv st w H locs ls vs' lw ws := ⟨h1, h2, h3, h4, h5, h6, h7, h8⟩
    unfold xh_table at h
    dsimp only at h
    by_cases ho : q.2 < lo ∨ hi < q.1
    · rw [if_pos ho] at h
      by_cases hp : 0 ≤ (pc : Int) + dflt
      · rw [if_pos hp] at h
        cases h
        exact lv_tableOut hx hb hd (by omega) (Int.toNat_of_nonneg hp).symm (hr H locs ls vs' lw ws hat)
      · rw [if_neg hp] at h
        cases h
    · rw [if_neg ho] at h
      by_cases hq : q.1 = q.2
      · rw [if_pos hq] at h
        have e0 : x.toInt = q.1 := by omega
        cases hf : offs[(q.1 - lo).toNat]? with
        | none => rw [hf] at h; cases h
        | some off =>
          rw [hf] at h
          dsimp only at h
          by_cases hp : 0 ≤ (pc : Int) + off
          · rw [if_pos hp] at h
            cases h
            exact lv_tableIn hx hb hd (by omega) (by omega) (by rw [e0]; exact hf) (Int.toNat_of_nonneg hp).symm (hr H locs ls vs' lw ws hat)
          · rw [if_neg hp] at h
            cases h
      · rw [if_neg hq] at h
        cases h
end XO
