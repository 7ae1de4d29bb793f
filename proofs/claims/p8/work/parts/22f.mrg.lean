/-! ===== a run in a world of which little is known is a run in every world that has that little ===== -/
/-- a cell of which nothing is known -/
def xhd : XC := .inl (99999, [])
/-- the known cells of the first world, the other's for the rest -/
def xmrg : XW → XW → XW
  | [], w2 => w2
  | x :: w, [] => x :: w
  | x :: w, y :: w2 => (match x with
    | .inl (99999, []) => y
    | z => z) :: xmrg w w2
def xnh (c : XC) : Prop := c ≠ xhd
theorem xmrg_cons {x y : XC} {w w2 : XW} (h : xnh x) : xmrg (x :: w) (y :: w2) = x :: xmrg w w2 := by
  rw [xmrg]
  congr 1
theorem xmrg_consh {y : XC} {w w2 : XW} : xmrg (xhd :: w) (y :: w2) = y :: xmrg w w2 := rfl
theorem xmrg_get : ∀ {w w2 : XW} {q : Nat} {c : XC}, xnh c → w[q]? = some c → (xmrg w w2)[q]? = some c
  | [], _, _, _, _, h => by simp at h
  | _ :: _, [], _, _, _, h => h
  | x :: w, y :: w2, 0, c, hn, h => by
    rw [List.getElem?_cons_zero] at h
    cases h
    rw [xmrg_cons hn, List.getElem?_cons_zero]
  | x :: w, y :: w2, q + 1, c, hn, h => by
    rw [List.getElem?_cons_succ] at h
    show (_ :: xmrg w w2)[q + 1]? = some c
    rw [List.getElem?_cons_succ]
    exact xmrg_get hn h
theorem xmrg_set : ∀ {w w2 : XW} {q : Nat} {c : XC}, xnh c → q < w.length → (xmrg w w2).set q c = xmrg (w.set q c) w2
  | [], _, _, _, _, h => by simp at h
  | _ :: _, [], q, _, _, h => by cases q <;> rfl
  | x :: w, y :: w2, 0, c, hn, h => by
    rw [List.set_cons_zero, xmrg_cons hn]
    rfl
  | x :: w, y :: w2, q + 1, c, hn, h => by
    rw [List.set_cons_succ]
    show (_ :: xmrg w w2).set (q + 1) c = _ :: xmrg (w.set q c) w2
    rw [List.set_cons_succ, xmrg_set hn (Nat.lt_of_succ_lt_succ h)]
theorem xmrg_app : ∀ {w w2 : XW} {c : XC}, w2.length ≤ w.length → xmrg w w2 ++ [c] = xmrg (w ++ [c]) w2
  | [], [], _, _ => rfl
  | [], _ :: _, _, h => by simp at h
  | _ :: _, [], _, _ => rfl
  | x :: w, y :: w2, c, h => by
    show (_ :: xmrg w w2) ++ [c] = _ :: xmrg (w ++ [c]) w2
    rw [List.cons_append, xmrg_app (Nat.le_of_succ_le_succ h)]
theorem xmrg_len : ∀ {w w2 : XW}, w2.length ≤ w.length → (xmrg w w2).length = w.length
  | [], [], _ => rfl
  | [], _ :: _, h => by simp at h
  | _ :: _, [], _ => rfl
  | x :: w, y :: w2, h => by
    show (_ :: xmrg w w2).length = _
    rw [List.length_cons, List.length_cons, xmrg_len (Nat.le_of_succ_le_succ h)]
theorem xmrg_self : ∀ {w w2 : XW}, (∀ (i : Nat) (c : XC), w[i]? = some c → c = xhd ∨ w2[i]? = some c) → w.length ≤ w2.length → xmrg w w2 = w2
  | [], _, _, _ => rfl
  | _ :: _, [], _, h => by simp at h
  | x :: w, y :: w2, h, hl => by
    have ih := xmrg_self (w := w) (w2 := w2) (fun i c hc => by
      have := h (i + 1) c (by rw [List.getElem?_cons_succ]; exact hc)
      rw [List.getElem?_cons_succ] at this
      exact this) (Nat.le_of_succ_le_succ hl)
    rcases h 0 x (by rw [List.getElem?_cons_zero]) with h0 | h0
    · subst h0
      rw [xmrg_consh, ih]
    · rw [List.getElem?_cons_zero] at h0
      cases h0
      show _ :: xmrg w w2 = _
      rw [ih]
      congr 1
      split <;> rfl
def xrm2 (w2 : XW) : XR → XR
  | .inl (pc, lv, st, w, k, n) => .inl (pc, lv, st, xmrg w w2, k, n)
  | .inr (ro, w, k, n) => .inr (ro, xmrg w w2, k, n)
def xrlen : XR → Nat
  | .inl (_, _, _, w, _, _) => w.length
  | .inr (_, w, _, _) => w.length
theorem xnh_a {q : Nat × List XV} : xnh (.inr q) := fun h => by cases h
theorem xnh_f {c f : Nat} {fs : List XV} {v : XV} (h : fs[f]? = some v) : xnh (.inl (c, fs)) := fun e => by
  cases e
  simp at h
theorem xnh_l {c f : Nat} {fs : List XV} (h : f < fs.length) : xnh (.inl (c, fs)) := fun e => by
  cases e
  simp at h
theorem xnh_c {c : Nat} {fs : List XV} (h : c ≠ 99999) : xnh (.inl (c, fs)) := fun e => by
  cases e
  exact h rfl
section XH
variable {pc : Nat} {lv : XL} {st : List XV} {w w2 : XW} {k n : Nat} {r : XR}
/-- of a family that doesn't look at the world -/
def xblind (F : XW → Option XR) : Prop := ∀ (w : XW) (r : XR), F w = some r → xrlen r = w.length ∧ ∀ w2, F (xmrg w w2) = some (xrm2 w2 r)
theorem xb_push {d : Nat} {v : XV} : xblind (fun w => xh_push d v pc lv st w k n) := fun w r h => by
  cases h
  exact ⟨rfl, fun _ => rfl⟩
theorem xb_load {kd d j : Nat} : xblind (fun w => xh_load kd d j pc lv st w k n) := fun w r h => by
  simp only [xh_load] at h ⊢
  cases hx : xk_get lv j with
  | none => rw [hx] at h; cases h
  | some x =>
    rw [hx] at h
    dsimp only at h ⊢
    split at h
    · cases h
      rename_i h0
      exact ⟨rfl, fun _ => by rw [if_pos h0]; rfl⟩
    · cases h
theorem xb_store {kd d j nL : Nat} : xblind (fun w => xh_store kd d j nL pc lv st w k n) := fun w r h => by
  cases st with
  | nil => cases h
  | cons x q =>
    simp only [xh_store] at h ⊢
    split at h
    · cases h
      rename_i h0
      exact ⟨rfl, fun _ => by rw [if_pos h0]; rfl⟩
    · cases h
theorem xb_store2 {d j nL : Nat} : xblind (fun w => xh_store2 d j nL pc lv st w k n) := fun w r h => by
  cases st with
  | nil => cases h
  | cons x q =>
    simp only [xh_store2] at h ⊢
    split at h
    · cases h
      rename_i h0
      exact ⟨rfl, fun _ => by rw [if_pos h0]; rfl⟩
    · cases h
theorem xb_iinc {j nL : Nat} {z : Int} : xblind (fun w => xh_iinc j nL z pc lv st w k n) := fun w r h => by
  simp only [xh_iinc] at h ⊢
  split at h
  · split at h
    · cases h
      rename_i h0
      exact ⟨rfl, fun _ => by rw [if_pos h0]; rfl⟩
    · cases h
  · cases h
theorem xb_bin {f : Int × Int → Int × Int → Int × Int} : xblind (fun w => xh_bin f pc lv st w k n) := fun w r h => by
  simp only [xh_bin] at h ⊢
  split at h
  · cases h
    exact ⟨rfl, fun _ => rfl⟩
  · cases h
theorem xb_div {f : Int × Int → Int × Int → Int × Int} : xblind (fun w => xh_div f pc lv st w k n) := fun w r h => by
  simp only [xh_div] at h ⊢
  split at h
  · split at h
    · rename_i h0
      cases h
      exact ⟨rfl, fun _ => by rw [if_pos h0]; rfl⟩
    · cases h
  · cases h
theorem xb_un {f : Int × Int → Int × Int} : xblind (fun w => xh_un f pc lv st w k n) := fun w r h => by
  simp only [xh_un] at h ⊢
  split at h
  · cases h
    exact ⟨rfl, fun _ => rfl⟩
  · cases h
theorem xb_lneg : xblind (fun w => xh_lneg pc lv st w k n) := fun w r h => by
  simp only [xh_lneg] at h ⊢
  split at h
  · cases h
    exact ⟨rfl, fun _ => rfl⟩
  · cases h
    exact ⟨rfl, fun _ => rfl⟩
  · cases h
theorem xb_lbin {f : Option Int → Option Int → Option Int} : xblind (fun w => xh_lbin f pc lv st w k n) := fun w r h => by
  simp only [xh_lbin] at h ⊢
  split at h
  · cases h
    exact ⟨rfl, fun _ => rfl⟩
  · cases h
theorem xb_ldiv {f : Option Int → Option Int → Option Int} : xblind (fun w => xh_ldiv f pc lv st w k n) := fun w r h => by
  simp only [xh_ldiv] at h ⊢
  split at h
  · split at h
    · rename_i h0
      cases h
      exact ⟨rfl, fun _ => by rw [if_pos h0]; rfl⟩
    · cases h
  · cases h
theorem xb_lsh {f : Option Int → Int × Int → Option Int} : xblind (fun w => xh_lsh f pc lv st w k n) := fun w r h => by
  simp only [xh_lsh] at h ⊢
  split at h
  · cases h
    exact ⟨rfl, fun _ => rfl⟩
  · cases h
theorem xb_i2l : xblind (fun w => xh_i2l pc lv st w k n) := fun w r h => by
  simp only [xh_i2l] at h ⊢
  split at h
  · cases h
    exact ⟨rfl, fun _ => rfl⟩
  · cases h
theorem xb_l2i : xblind (fun w => xh_l2i pc lv st w k n) := fun w r h => by
  simp only [xh_l2i] at h ⊢
  split at h
  · cases h
    exact ⟨rfl, fun _ => rfl⟩
  · cases h
    exact ⟨rfl, fun _ => rfl⟩
  · cases h
theorem xb_lcmp : xblind (fun w => xh_lcmp pc lv st w k n) := fun w r h => by
  simp only [xh_lcmp] at h ⊢
  split at h
  · cases h
    exact ⟨rfl, fun _ => rfl⟩
  · rename_i h0
    cases h
    exact ⟨rfl, fun _ => rfl⟩
  · cases h
theorem xb_pop {cat : Nat} : xblind (fun w => xh_pop cat pc lv st w k n) := fun w r h => by
  cases st with
  | nil => cases h
  | cons x q =>
    simp only [xh_pop] at h ⊢
    split at h
    · rename_i h0
      cases h
      exact ⟨rfl, fun _ => by rw [if_pos h0]; rfl⟩
    · cases h
theorem xb_dup : xblind (fun w => xh_dup pc lv st w k n) := fun w r h => by
  cases st with
  | nil => cases h
  | cons x q =>
    simp only [xh_dup] at h ⊢
    split at h
    · rename_i h0
      cases h
      exact ⟨rfl, fun _ => by rw [if_pos h0]; rfl⟩
    · cases h
theorem xb_dup2 : xblind (fun w => xh_dup2 pc lv st w k n) := fun w r h => by
  cases st with
  | nil => cases h
  | cons x q =>
    simp only [xh_dup2] at h ⊢
    split at h
    · rename_i h0
      cases h
      exact ⟨rfl, fun _ => by rw [if_pos h0]; rfl⟩
    · rename_i h0
      cases q with
      | nil => cases h
      | cons y q =>
        dsimp only at h ⊢
        split at h
        · rename_i h1
          cases h
          exact ⟨rfl, fun _ => by rw [if_neg h0, if_pos h1]; rfl⟩
        · cases h
theorem xb_br {o : Option Bool} {tgt : Nat} : xblind (fun w => xh_br o tgt pc lv st w k n) := fun w r h => by
  match o, h with
  | some true, h => cases h; exact ⟨rfl, fun _ => rfl⟩
  | some false, h => cases h; exact ⟨rfl, fun _ => rfl⟩
  | none, h => cases h
theorem xb_if {c : ClassFile.Cond} {tgt : Nat} : xblind (fun w => xh_if c tgt pc lv st w k n) := fun w r h => by
  match st, h with
  | .inl p :: q, h => exact xb_br w r h
theorem xb_icmp {c : ClassFile.Cond} {tgt : Nat} : xblind (fun w => xh_icmp c tgt pc lv st w k n) := fun w r h => by
  match st, h with
  | .inl p :: .inl p2 :: q, h => exact xb_br w r h
theorem xb_null {neg : Bool} {tgt : Nat} : xblind (fun w => xh_null neg tgt pc lv st w k n) := fun w r h => by
  match st, h with
  | .inr (.inr p) :: q, h =>
    simp only [xh_null] at h ⊢
    split at h
    · rename_i h0
      cases h
      exact ⟨rfl, fun _ => by rw [if_pos h0]; rfl⟩
    · rename_i h0
      cases h
      exact ⟨rfl, fun _ => by rw [if_neg h0]; rfl⟩
theorem xb_goto {tgt : Nat} : xblind (fun w => xh_goto tgt lv st w k n) := fun w r h => by
  cases h
  exact ⟨rfl, fun _ => rfl⟩
theorem xb_table {d lo hi : Int} {offs : Array Int} : xblind (fun w => xh_table d lo hi offs pc lv st w k n) := fun w r h => by
  match st, h with
  | .inl q :: s, h =>
    simp only [xh_table] at h ⊢
    split at h
    · rename_i h0
      split at h
      · rename_i h1
        cases h
        exact ⟨rfl, fun _ => by rw [if_pos h0, if_pos h1]; rfl⟩
      · cases h
    · rename_i h0
      split at h
      · rename_i h1
        split at h
        · rename_i off ho
          split at h
          · rename_i h2
            cases h
            exact ⟨rfl, fun _ => by rw [if_neg h0, if_pos h1, if_pos h2]; rfl⟩
          · cases h
        · cases h
      · cases h
theorem xb_oinit {M : XM} : xblind (fun w => xh_oinit M pc lv st w k n) := fun w r h => by
  match st, h with
  | .inr (.inr q) :: s, h =>
    simp only [xh_oinit] at h ⊢
    split at h
    · rename_i h0
      cases h
      exact ⟨rfl, fun _ => by rw [if_pos h0]; rfl⟩
    · cases h
theorem xb_m2 {f : Int32 → Int32 → Int32} {M : XM} : xblind (fun w => xh_m2 f M pc lv st w k n) := fun w r h => by
  match st, h with
  | .inl p :: .inl q :: s, h =>
    simp only [xh_m2] at h ⊢
    split at h
    · rename_i h0
      cases h
      exact ⟨rfl, fun _ => by rw [if_pos h0]; rfl⟩
    · cases h
theorem xb_m1 {f : Int32 → Int32} {M : XM} : xblind (fun w => xh_m1 f M pc lv st w k n) := fun w r h => by
  match st, h with
  | .inl p :: s, h =>
    simp only [xh_m1] at h ⊢
    split at h
    · rename_i h0
      cases h
      exact ⟨rfl, fun _ => by rw [if_pos h0]; rfl⟩
    · cases h
theorem xb_ret {kd : Nat} {ty : Option FieldType} : xblind (fun w => xh_ret kd ty st w k n) := fun w r h => by
  match st, h with
  | [x], h =>
    simp only [xh_ret] at h ⊢
    split at h
    · rename_i h0
      cases h
      exact ⟨rfl, fun _ => by rw [if_pos h0]; rfl⟩
    · cases h
theorem xb_retv : xblind (fun w => xh_retv st w k n) := fun w r h => by
  match st, h with
  | [], h =>
    cases h
    exact ⟨rfl, fun _ => rfl⟩
/-- of a family that looks at the world: a cell that it finds there is known -/
theorem xm_arr {exc : List (List XV)} {q : Nat × Nat} {x : Nat × List XV} (h : xarr w exc q = some x) : xarr (xmrg w w2) exc q = some x := by
  unfold xarr at h ⊢
  split at h
  · rename_i h0
    rw [if_pos h0]
    split at h
    · rename_i hw
      cases h
      rw [xmrg_get xnh_a hw]
    · cases h
  · rename_i h0
    rw [if_neg h0]
    exact h
theorem xm_ald {ty kd : Nat} {exc : List (List XV)} (h : xh_ald ty kd exc pc lv st w k n = some r) : xrlen r = w.length ∧ xh_ald ty kd exc pc lv st (xmrg w w2) k n = some (xrm2 w2 r) := by
  match st, h with
  | .inl i :: .inr (.inr q) :: s, h =>
    simp only [xh_ald] at h ⊢
    cases ha : xarr w exc q with
    | none => rw [ha] at h; cases h
    | some x =>
      rw [ha] at h
      rw [xm_arr ha]
      dsimp only at h ⊢
      split at h
      · rename_i h0
        rw [if_pos h0]
        split at h
        · rename_i y hy
          split at h
          · rename_i h1
            cases h
            exact ⟨rfl, by rw [if_pos h1]; rfl⟩
          · cases h
        · cases h
      · cases h
theorem xm_ast {ty kd : Nat} (h : xh_ast ty kd pc lv st w k n = some r) : xrlen r = w.length ∧ xh_ast ty kd pc lv st (xmrg w w2) k n = some (xrm2 w2 r) := by
  match st, h with
  | x :: .inl i :: .inr (.inr q) :: s, h =>
    simp only [xh_ast] at h ⊢
    split at h
    · rename_i h0
      rw [if_pos h0]
      split at h
      · rename_i t es hw
        rw [xmrg_get xnh_a hw]
        dsimp only at h ⊢
        have hl : q.2 < w.length := (List.getElem?_eq_some_iff.mp hw).1
        split at h
        · rename_i h1
          rw [if_pos h1]
          split at h
          · rename_i es' he
            cases h
            exact ⟨by simp [xrlen], by rw [xmrg_set xnh_a hl]; rfl⟩
          · cases h
        · cases h
      · cases h
    · cases h
theorem xm_cpy {M : XM} (h : xh_cpy M pc lv st w k n = some r) : xrlen r = w.length ∧ xh_cpy M pc lv st (xmrg w w2) k n = some (xrm2 w2 r) := by
  match st, h with
  | .inl c :: .inl j :: .inr (.inr d) :: .inl i :: .inr (.inr s) :: st, h =>
    simp only [xh_cpy] at h ⊢
    split at h
    · rename_i h0
      rw [if_pos h0]
      split at h
      · rename_i es ed hes hed
        rw [xmrg_get xnh_a hes, xmrg_get xnh_a hed]
        have hl : d.2 < w.length := (List.getElem?_eq_some_iff.mp hed).1
        split at h
        · rename_i h1
          cases h
          refine ⟨by simp [xrlen], ?_⟩
          show (if i.1.toNat + c.1.toNat ≤ es.length ∧ j.1.toNat + c.1.toNat ≤ ed.length then some (Sum.inl (pc + 3, lv, st, (xmrg w w2).set d.2 (.inr (0, xcpy es ed i.1.toNat j.1.toNat c.1.toNat)), k, n)) else none) = some (xrm2 w2 _)
          rw [if_pos h1, xmrg_set xnh_a hl]
          rfl
        · cases h
      · cases h
    · cases h
theorem xm_zst (h : xh_zst pc lv st w k n = some r) : xrlen r = w.length ∧ xh_zst pc lv st (xmrg w w2) k n = some (xrm2 w2 r) := by
  match st, h with
  | x :: s, h =>
    simp only [xh_zst] at h ⊢
    split at h
    · rename_i h0
      rw [if_pos h0]
      exact xm_ast h
    · cases h
theorem xm_aast {tc : Nat → Option Nat} (htc : ∀ t, tc t ≠ some 99999) (h : xh_aast tc pc lv st w k n = some r) : xrlen r = w.length ∧ xh_aast tc pc lv st (xmrg w w2) k n = some (xrm2 w2 r) := by
  match st, h with
  | .inr (.inr v) :: .inl i :: .inr (.inr q) :: s, h =>
    simp only [xh_aast] at h ⊢
    split at h
    · rename_i h0
      rw [if_pos h0]
      split at h
      · rename_i t es c fs hw hv
        have hl : q.2 < w.length := (List.getElem?_eq_some_iff.mp hw).1
        split at h
        · rename_i h1
          rw [xmrg_get xnh_a hw, xmrg_get (xnh_c (fun e => htc t (by rw [h1, e]))) hv]
          dsimp only
          rw [if_pos h1]
          split at h
          · rename_i es' he
            cases h
            exact ⟨by simp [xrlen], by rw [xmrg_set xnh_a hl]; rfl⟩
          · cases h
        · cases h
      · cases h
    · cases h
theorem xm_alen {exc : List (List XV)} (h : xh_alen exc pc lv st w k n = some r) : xrlen r = w.length ∧ xh_alen exc pc lv st (xmrg w w2) k n = some (xrm2 w2 r) := by
  match st, h with
  | .inr (.inr q) :: s, h =>
    simp only [xh_alen] at h ⊢
    cases ha : xarr w exc q with
    | none => rw [ha] at h; cases h
    | some x =>
      rw [ha] at h
      rw [xm_arr ha]
      dsimp only at h ⊢
      split at h
      · rename_i h0
        cases h
        exact ⟨rfl, by rw [if_pos h0]; rfl⟩
      · cases h
theorem xm_newa {d t mk mn : Nat} {ty : Option FieldType} (hk : mk = 0 ∨ w2.length ≤ w.length) (h : xh_newa d t ty mk mn pc lv st w k n = some r) : w.length ≤ xrlen r ∧ xh_newa d t ty mk mn pc lv st (xmrg w w2) k n = some (xrm2 w2 r) := by
  match st, h with
  | .inl q :: s, h =>
    simp only [xh_newa] at h ⊢
    split at h
    · rename_i h0
      have hk : w2.length ≤ w.length := hk.resolve_left (by omega)
      rw [if_pos h0]
      split at h
      · split at h
        · rename_i v hv
          cases h
          refine ⟨by simp [xrlen], ?_⟩
          rw [xmrg_len hk, xmrg_app hk]
          rfl
        · cases h
      · cases h
    · cases h
theorem xm_new {c mk mn : Nat} {fs : Option (List XV)} (hk : mk = 0 ∨ w2.length ≤ w.length) (h : xh_new c fs mk mn pc lv st w k n = some r) : w.length ≤ xrlen r ∧ xh_new c fs mk mn pc lv st (xmrg w w2) k n = some (xrm2 w2 r) := by
  match fs, h with
  | some fs, h =>
    simp only [xh_new] at h ⊢
    split at h
    · rename_i h0
      have hk : w2.length ≤ w.length := hk.resolve_left (by omega)
      rw [if_pos h0]
      cases h
      refine ⟨by simp [xrlen], ?_⟩
      rw [xmrg_len hk, xmrg_app hk]
      rfl
    · cases h
theorem xm_get {c f : Nat} (h : xh_get c f pc lv st w k n = some r) : xrlen r = w.length ∧ xh_get c f pc lv st (xmrg w w2) k n = some (xrm2 w2 r) := by
  match st, h with
  | .inr (.inr q) :: s, h =>
    simp only [xh_get] at h ⊢
    split at h
    · rename_i h0
      rw [if_pos h0]
      split at h
      · rename_i c' fs hw
        split at h
        · rename_i h1
          split at h
          · rename_i v hv
            cases h
            rw [xmrg_get (xnh_f hv) hw]
            dsimp only
            rw [if_pos h1, hv]
            exact ⟨rfl, rfl⟩
          · cases h
        · cases h
      · cases h
    · cases h
theorem xm_put {c f : Nat} {ty : Option FieldType} (h : xh_put c f ty pc lv st w k n = some r) : xrlen r = w.length ∧ xh_put c f ty pc lv st (xmrg w w2) k n = some (xrm2 w2 r) := by
  match st, h with
  | x :: .inr (.inr q) :: s, h =>
    simp only [xh_put] at h ⊢
    split at h
    · rename_i h0
      rw [if_pos h0]
      split at h
      · rename_i c' fs t hw _
        have hl : q.2 < w.length := (List.getElem?_eq_some_iff.mp hw).1
        split at h
        · rename_i h1
          cases h
          rw [xmrg_get (xnh_l h1.2.1) hw]
          dsimp only
          rw [if_pos h1]
          refine ⟨by simp [xrlen], ?_⟩
          rw [xmrg_set (xnh_l (f := f) (by rw [List.length_set]; exact h1.2.1)) hl]
          rfl
        · cases h
      · cases h
    · cases h
theorem xm_recv {c : Nat} {as : List XV} (hc : c ≠ 99999) (h : xrecv w c as = true) : xrecv (xmrg w w2) c as = true := by
  match as, h with
  | .inr (.inr q) :: s, h =>
    simp only [xrecv, Bool.and_eq_true] at h ⊢
    refine ⟨h.1, ?_⟩
    have h2 := h.2
    split at h2
    · rename_i x hw
      have hx : x.1 = c := by simpa using h2
      rw [xmrg_get (xnh_c (c := x.1) (fs := x.2) (by rw [hx]; exact hc)) hw]
      dsimp only
      exact h2
    · cases h2
/-- what a call says of a world of which little is known, it says of every world that has that little -/
def xcfm (cf cf' : XF) (MT : Nat → Option XM) : Prop := ∀ (j : Nat) (N : XM) (as : List XV) (w w2 : XW) (ro : Option XV) (w' : XW), MT j = some N → (xm_k N = 0 ∨ w2.length ≤ w.length) → cf j as w = some (ro, w') → w.length ≤ w'.length ∧ cf' j as (xmrg w w2) = some (ro, xmrg w' w2)
theorem xm_call {cf cf' : XF} {MT : Nat → Option XM} {M : XM} {j na : Nat} {recv : Bool} (hcf : xcfm cf cf' MT) (hMT : ∀ j N, MT j = some N → xm_i N ≠ 99999) (hk : xm_k M = 0 ∨ w2.length ≤ w.length) (h : xh_call cf M (MT j) j na recv pc lv st w k n = some r) : w.length ≤ xrlen r ∧ xh_call cf' M (MT j) j na recv pc lv st (xmrg w w2) k n = some (xrm2 w2 r) := by
  cases hN : MT j with
  | none => rw [hN] at h; cases h
  | some N =>
    rw [hN] at h
    simp only [xh_call] at h ⊢
    split at h
    · rename_i h0
      obtain ⟨q1, q2, q3, q4, q5, q6, q7⟩ := h0
      have q7' : (!recv || xrecv (xmrg w w2) (xm_i N) (st.take na).reverse) = true := by
        cases recv with
        | false => rfl
        | true =>
          simp only [Bool.not_true, Bool.false_or] at q7 ⊢
          exact xm_recv (hMT j N hN) q7
      rw [if_pos ⟨q1, q2, q3, q4, q5, q6, q7'⟩]
      split at h
      · rename_i q hq
        obtain ⟨ro, w'⟩ := q
        obtain ⟨a1, a2⟩ := hcf j N _ w w2 ro w' hN (hk.imp (fun e => by omega) id) hq
        rw [a2]
        cases h
        exact ⟨a1, rfl⟩
      · cases h
    · cases h
end XH

section XH
variable {pc : Nat} {lv : XL} {st : List XV} {w w2 : XW} {k n : Nat} {r : XR}
theorem xblind.le {F : XW → Option XR} (hF : xblind F) (h : F w = some r) : w.length ≤ xrlen r ∧ F (xmrg w w2) = some (xrm2 w2 r) := ⟨Nat.le_of_eq (hF w r h).1.symm, (hF w r h).2 w2⟩
theorem xm_le {a b : Nat} {p : Prop} (h : a = b ∧ p) : b ≤ a ∧ p := ⟨Nat.le_of_eq h.1.symm, h.2⟩
set_option maxHeartbeats 4000000 in
theorem xins_mrg {cf cf' : XF} {MT : Nat → Option XM} {FT : Nat → Nat → Option FieldType} {FD : Nat → Option (List XV)} {TY : Nat → Option FieldType} {TC : Nat → Option Nat} {exc : List (List XV)} {M : XM} {i : Instr} {a b : Nat} {z : Int} (hcf : xcfm cf cf' MT) (hMT : ∀ j N, MT j = some N → xm_i N ≠ 99999) (htc : ∀ t, TC t ≠ some 99999) (hk : xm_k M = 0 ∨ w2.length ≤ w.length) (h : xins cf MT FT FD TY TC exc M i a b z pc lv st w k n = some r) : w.length ≤ xrlen r ∧ xins cf' MT FT FD TY TC exc M i a b z pc lv st (xmrg w w2) k n = some (xrm2 w2 r) := by
  cases i with
  | iconst _ => exact xb_push.le h
  | bipush _ => exact xb_push.le h
  | sipush _ => exact xb_push.le h
  | ldc _ => exact xb_push.le h
  | ldc_w _ => exact xb_push.le h
  | lconst _ => exact xb_push.le h
  | ldc2_w _ => exact xb_push.le h
  | aconst_null => exact xb_push.le h
  | iload_n j => exact xb_load.le h
  | iload j => exact xb_load.le h
  | lload_n j => exact xb_load.le h
  | lload j => exact xb_load.le h
  | aload_n j => exact xb_load.le h
  | aload j => exact xb_load.le h
  | istore_n j => exact xb_store.le h
  | istore j => exact xb_store.le h
  | lstore_n j => exact xb_store2.le h
  | lstore j => exact xb_store2.le h
  | astore_n j => exact xb_store.le h
  | astore j => exact xb_store.le h
  | iinc j _ => exact xb_iinc.le h
  | iadd => exact xb_bin.le h
  | isub => exact xb_bin.le h
  | imul => exact xb_bin.le h
  | iand => exact xb_bin.le h
  | ior => exact xb_bin.le h
  | ixor => exact xb_bin.le h
  | ishl => exact xb_bin.le h
  | ishr => exact xb_bin.le h
  | iushr => exact xb_bin.le h
  | idiv => exact xb_div.le h
  | irem => exact xb_div.le h
  | ineg => exact xb_un.le h
  | i2b => exact xb_un.le h
  | lneg => exact xb_lneg.le h
  | ladd => exact xb_lbin.le h
  | lsub => exact xb_lbin.le h
  | lmul => exact xb_lbin.le h
  | ldiv => exact xb_ldiv.le h
  | lrem => exact xb_ldiv.le h
  | land => exact xb_lbin.le h
  | lor => exact xb_lbin.le h
  | lxor => exact xb_lbin.le h
  | lshl => exact xb_lsh.le h
  | lshr => exact xb_lsh.le h
  | lushr => exact xb_lsh.le h
  | i2l => exact xb_i2l.le h
  | l2i => exact xb_l2i.le h
  | lcmp => exact xb_lcmp.le h
  | pop => exact xb_pop.le h
  | pop2 => exact xb_pop.le h
  | dup => exact xb_dup.le h
  | dup2 => exact xb_dup2.le h
  | ifCond c _ => exact xb_if.le h
  | if_icmp c _ => exact xb_icmp.le h
  | ifnull _ => exact xb_null.le h
  | ifnonnull _ => exact xb_null.le h
  | goto _ => exact xb_goto.le h
  | tableswitch d lo hi offs => exact xb_table.le h
  | iaload => exact xm_le (xm_ald h)
  | laload => exact xm_le (xm_ald h)
  | baload => exact xm_le (xm_ald h)
  | aaload => exact xm_le (xm_ald h)
  | iastore => exact xm_le (xm_ast h)
  | lastore => exact xm_le (xm_ast h)
  | bastore => exact xm_le (xm_zst h)
  | aastore => exact xm_le (xm_aast htc h)
  | arraylength => exact xm_le (xm_alen h)
  | newarray _ => exact xm_newa hk h
  | anewarray _ => exact xm_newa hk h
  | new _ => exact xm_new hk h
  | getfield _ => exact xm_le (xm_get h)
  | putfield _ => exact xm_le (xm_put h)
  | getstatic _ => exact xb_push.le h
  | invokevirtual _ => exact xm_call hcf hMT hk h
  | invokestatic _ =>
    simp only [xins] at h ⊢
    split at h
    · rename_i h0
      rw [if_pos h0]
      exact xm_call hcf hMT hk h
    · rename_i h0
      rw [if_neg h0]
      split at h
      · rename_i h1
        rw [if_pos h1]
        exact xb_m2.le h
      · rename_i h1
        rw [if_neg h1]
        split at h
        · rename_i h2
          rw [if_pos h2]
          exact xb_m2.le h
        · rename_i h2
          rw [if_neg h2]
          split at h
          · rename_i h3
            rw [if_pos h3]
            exact xb_m1.le h
          · rename_i h3
            rw [if_neg h3]
            split at h
            · rename_i h4
              rw [if_pos h4]
              exact xm_le (xm_cpy h)
            · cases h
  | invokespecial _ =>
    simp only [xins] at h ⊢
    split at h
    · rename_i h0
      rw [if_pos h0]
      exact xb_oinit.le h
    · rename_i h0
      rw [if_neg h0]
      exact xm_call hcf hMT hk h
  | ireturn => exact xb_ret.le h
  | lreturn => exact xb_ret.le h
  | areturn => exact xb_ret.le h
  | return_ => exact xb_retv.le h
  | _ => exact nomatch (show (none : Option XR) = some r from h)
end XH
theorem xstep_mrg {cf cf' : XF} {MT : Nat → Option XM} {FT : Nat → Nat → Option FieldType} {FD : Nat → Option (List XV)} {TY : Nat → Option FieldType} {TC : Nat → Option Nat} {exc : List (List XV)} {M : XM} {S : XS} {w2 : XW} {r : XR} (hcf : xcfm cf cf' MT) (hMT : ∀ j N, MT j = some N → xm_i N ≠ 99999) (htc : ∀ t, TC t ≠ some 99999) (hk : xm_k M = 0 ∨ w2.length ≤ S.2.2.2.1.length) (h : xstep cf MT FT FD TY TC exc M S = some r) : S.2.2.2.1.length ≤ xrlen r ∧ xstep cf' MT FT FD TY TC exc M (S.1, S.2.1, S.2.2.1, xmrg S.2.2.2.1 w2, S.2.2.2.2.1, S.2.2.2.2.2) = some (xrm2 w2 r) := by
  unfold xstep at h ⊢
  dsimp only
  cases hf : xfetch (xm_t M) S.1 with
  | none => rw [hf] at h; cases h
  | some q =>
    rw [hf] at h
    exact xins_mrg hcf hMT htc hk h
theorem xrun_mrg {f f' : XS → Option XR} {w2 : XW} {z : Prop} (hf : ∀ (S : XS) (r : XR), (z ∨ w2.length ≤ S.2.2.2.1.length) → f S = some r → S.2.2.2.1.length ≤ xrlen r ∧ f' (S.1, S.2.1, S.2.2.1, xmrg S.2.2.2.1 w2, S.2.2.2.2.1, S.2.2.2.2.2) = some (xrm2 w2 r)) : ∀ (fu : Nat) (S : XS) (r : XR), (z ∨ w2.length ≤ S.2.2.2.1.length) → xrun f fu S = some r → S.2.2.2.1.length ≤ xrlen r ∧ xrun f' fu (S.1, S.2.1, S.2.2.1, xmrg S.2.2.2.1 w2, S.2.2.2.2.1, S.2.2.2.2.2) = some (xrm2 w2 r)
  | 0, S, r, hk, h => hf S r hk h
  | fu + 1, S, r, hk, h => by
    unfold xrun at h ⊢
    cases h1 : xrun f fu S with
    | none => rw [h1] at h; cases h
    | some q =>
      rw [h1] at h
      obtain ⟨a1, a2⟩ := xrun_mrg hf fu S q hk h1
      rw [a2]
      match q, h, a1 with
      | .inl (pc, lv, st, w, k, n), h, a1 =>
        obtain ⟨b1, b2⟩ := xrun_mrg hf fu (pc, lv, st, w, k, n) r (hk.imp id (fun e => Nat.le_trans e a1)) h
        exact ⟨Nat.le_trans a1 b1, b2⟩
      | .inr (ro, w, k, n), h, a1 =>
        cases h
        exact ⟨a1, rfl⟩
theorem xcall_mrg {MT : Nat → Option XM} {FT : Nat → Nat → Option FieldType} {FD : Nat → Option (List XV)} {TY : Nat → Option FieldType} {TC : Nat → Option Nat} {exc : List (List XV)} {ov : XF} {fu : Nat} (hMT : ∀ j N, MT j = some N → xm_i N ≠ 99999) (htc : ∀ t, TC t ≠ some 99999) (hov : ∀ j as w, ov j as w = none) : ∀ d, xcfm (xcall MT FT FD TY TC exc ov fu d) (xcall MT FT FD TY TC exc ov fu d) MT
  | 0 => fun _ _ _ _ _ _ _ _ _ h => by cases h
  | d + 1 => by
    intro j N as w w2 ro w' hN hk h
    unfold xcall at h ⊢
    rw [hov] at h ⊢
    dsimp only at h ⊢
    rw [hN] at h ⊢
    dsimp only at h ⊢
    split at h
    · rename_i h0
      rw [if_pos h0]
      split at h
      · rename_i q hq
        split at h
        · rename_i h1
          cases h
          obtain ⟨a1, a2⟩ := xrun_mrg (w2 := w2) (z := xm_k N = 0) (f' := xstep (xcall MT FT FD TY TC exc ov fu d) MT FT FD TY TC exc N) (fun S r hk h => xstep_mrg (xcall_mrg hMT htc hov d) hMT htc hk h) fu _ _ hk hq
          obtain ⟨ro, w', k', n'⟩ := q
          have a2 : xrun (xstep (xcall MT FT FD TY TC exc ov fu d) MT FT FD TY TC exc N) fu (0, xk_args 0 as, [], xmrg w w2, 0, 0) = some (.inr (ro, xmrg w' w2, k', n')) := a2
          rw [a2]
          dsimp only
          rw [if_pos h1]
          exact ⟨a1, rfl⟩
        · cases h
      · cases h
    · cases h
