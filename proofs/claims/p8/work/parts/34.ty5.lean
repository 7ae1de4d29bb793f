/-! ===== typed steps: constants, locals, ints ===== -/
section YI
variable {f : XS → Option XR} {J : XS → XS → Prop} {Post : Option XV × XW × Nat × Nat → Prop} {KD : Nat → Option YK} {ks : List Nat} {ow : XW → Prop} {n0 : Nat} {r0 : YR} {Y : YS} {outs : List YO}
def yend (f : XS → Option XR) (J : XS → XS → Prop) (Post : Option XV × XW × Nat × Nat → Prop) : XR → Prop
  | .inl S => yreach f J Post S
  | .inr q => Post q
/-- an instruction's family, at every configuration that the state stands for -/
def yone (f : XS → Option XR) (J : XS → XS → Prop) (Post : Option XV × XW × Nat × Nat → Prop) (KD : Nat → Option YK) (ks : List Nat) (ow : XW → Prop) (n0 : Nat) (r0 : YR) (Y : YS) (res : XL → List XV → XW → Option XR) : Prop := n0 ≤ (yf_e Y.2.2.2).length → ∀ (r : YR) (w : XW) (lv : XL) (st : List XV), yext n0 r0 r → ylvin r Y.2.1 lv → ystin r Y.2.2.1 st → yknow ks w r Y.2.2.2 → yhp KD ks ow w → ∃ o', res lv st w = some o' ∧ yend f J Post o'
theorem yuse {Y' : YS} {r : YR} {w : XW} {lv : XL} {st : List XV} {pc : Nat} (h : ygoodO f J Post KD ks ow n0 r0 (.inl Y')) (h0 : n0 ≤ (yf_e Y'.2.2.2).length) (hr : yext n0 r0 r) (hp : pc = Y'.1) (h1 : ylvin r Y'.2.1 lv) (h2 : ystin r Y'.2.2.1 st) (h3 : yknow ks w r Y'.2.2.2) (h4 : yhp KD ks ow w) : yend f J Post (.inl (pc, lv, st, w, 0, 0)) := h h0 r w _ hr ⟨lv, st, by rw [hp], h1, h2, h3, h4⟩
def yh_push (d : Nat) (v : YV) (Y : YS) : Option (List YO) := some [.inl (Y.1 + d, Y.2.1, v :: Y.2.2.1, Y.2.2.2)]
theorem yo_push {d : Nat} {v : YV} {x : XV} (hv : ∀ r, yvin r v x) (h : yh_push d v Y = some outs) (hg : ∀ o ∈ outs, ygoodO f J Post KD ks ow n0 r0 o) : yone f J Post KD ks ow n0 r0 Y (fun lv st w => xh_push d x Y.1 lv st w 0 0) := by
  cases h
  intro h0 r w lv st hr h1 h2 h3 h4
  exact ⟨_, rfl, yuse (hg _ List.mem_cons_self) h0 hr rfl h1 ⟨x, st, rfl, hv r, h2⟩ h3 h4⟩
def yh_load (kd d j : Nat) (Y : YS) : Option (List YO) := match yk_get Y.2.1 j with
  | some v => if ykd v = kd then some [.inl (Y.1 + d, Y.2.1, v :: Y.2.2.1, Y.2.2.2)] else none
  | none => none
theorem yo_load {kd d j : Nat} (h : yh_load kd d j Y = some outs) (hg : ∀ o ∈ outs, ygoodO f J Post KD ks ow n0 r0 o) : yone f J Post KD ks ow n0 r0 Y (fun lv st w => xh_load kd d j Y.1 lv st w 0 0) := by
  unfold yh_load at h
  split at h
  · rename_i v hv
    by_cases hk : ykd v = kd
    · rw [if_pos hk] at h
      cases h
      intro h0 r w lv st hr h1 h2 h3 h4
      obtain ⟨x, a1, a2⟩ := yk_get_ok h1 hv
      refine ⟨_, ?_, yuse (hg _ List.mem_cons_self) h0 hr rfl h1 ⟨x, st, rfl, a2, h2⟩ h3 h4⟩
      show xh_load kd d j Y.1 lv st w 0 0 = _
      unfold xh_load
      rw [a1]
      dsimp only
      rw [if_pos (by rw [(ykd_ok a2).1]; exact hk)]
    · rw [if_neg hk] at h
      cases h
  · cases h
def yh_store (kd d j nL : Nat) (Y : YS) : Option (List YO) := match Y.2.2.1 with
  | v :: s => if ykd v = kd ∧ j < nL then some [.inl (Y.1 + d, yk_set1 Y.2.1 j v, s, Y.2.2.2)] else none
  | [] => none
theorem yo_store {kd d j nL : Nat} (h : yh_store kd d j nL Y = some outs) (hg : ∀ o ∈ outs, ygoodO f J Post KD ks ow n0 r0 o) : yone f J Post KD ks ow n0 r0 Y (fun lv st w => xh_store kd d j nL Y.1 lv st w 0 0) := by
  unfold yh_store at h
  split at h
  · rename_i v s hs
    by_cases hk : ykd v = kd ∧ j < nL
    · rw [if_pos hk] at h
      cases h
      intro h0 r w lv st hr h1 h2 h3 h4
      rw [hs] at h2
      obtain ⟨x, st', e, a1, a2⟩ := h2
      subst e
      refine ⟨_, ?_, yuse (hg _ List.mem_cons_self) h0 hr rfl (yk_set1_ok h1 a1) a2 h3 h4⟩
      show xh_store kd d j nL Y.1 lv (x :: st') w 0 0 = _
      unfold xh_store
      dsimp only
      rw [if_pos ⟨by rw [(ykd_ok a1).1]; exact hk.1, hk.2⟩]
    · rw [if_neg hk] at h
      cases h
  · cases h
def yh_store2 (d j nL : Nat) (Y : YS) : Option (List YO) := match Y.2.2.1 with
  | v :: s => if ykd v = 1 ∧ j + 1 < nL then some [.inl (Y.1 + d, yk_set2 Y.2.1 j v, s, Y.2.2.2)] else none
  | [] => none
theorem yo_store2 {d j nL : Nat} (h : yh_store2 d j nL Y = some outs) (hg : ∀ o ∈ outs, ygoodO f J Post KD ks ow n0 r0 o) : yone f J Post KD ks ow n0 r0 Y (fun lv st w => xh_store2 d j nL Y.1 lv st w 0 0) := by
  unfold yh_store2 at h
  split at h
  · rename_i v s hs
    by_cases hk : ykd v = 1 ∧ j + 1 < nL
    · rw [if_pos hk] at h
      cases h
      intro h0 r w lv st hr h1 h2 h3 h4
      rw [hs] at h2
      obtain ⟨x, st', e, a1, a2⟩ := h2
      subst e
      refine ⟨_, ?_, yuse (hg _ List.mem_cons_self) h0 hr rfl (yk_set2_ok h1 a1) a2 h3 h4⟩
      show xh_store2 d j nL Y.1 lv (x :: st') w 0 0 = _
      unfold xh_store2
      dsimp only
      rw [if_pos ⟨by rw [(ykd_ok a1).1]; exact hk.1, hk.2⟩]
    · rw [if_neg hk] at h
      cases h
  · cases h
def yh_iinc (j nL : Nat) (z : Int) (Y : YS) : Option (List YO) := match yk_get Y.2.1 j with
  | some (.inl x) => if j < nL then (match yint Y (yadd x 1 (ycst z)) with
    | some (v, K) => some [.inl (Y.1 + 3, yk_set1 Y.2.1 j v, Y.2.2.1, K)]
    | none => none) else none
  | _ => none
theorem yo_iinc {j nL : Nat} {z : Int} (h : yh_iinc j nL z Y = some outs) (hg : ∀ o ∈ outs, ygoodO f J Post KD ks ow n0 r0 o) : yone f J Post KD ks ow n0 r0 Y (fun lv st w => xh_iinc j nL z Y.1 lv st w 0 0) := by
  unfold yh_iinc at h
  split at h
  · rename_i x hx
    by_cases hk : j < nL
    · rw [if_pos hk] at h
      split at h
      · rename_i v K hv
        cases h
        intro h0 r w lv st hr h1 h2 h3 h4
        obtain ⟨u, a1, a2⟩ := yk_get_ok h1 hx
        obtain ⟨e1, e2, e3⟩ := a2
        subst e1
        obtain ⟨y, b1, b2, b3⟩ := xadd_ex (yev (yi r) x) z
        obtain ⟨r', c1, c2, c3, c4, c5, c6⟩ := yint_ok hv h1 h2 h3 b2 (fun hh => by
          rw [yadd_ev, ycst_ev] at hh ⊢
          rw [b3 (by rw [Int.one_mul] at hh; exact hh), Int.one_mul])
        refine ⟨_, ?_, yuse (hg _ List.mem_cons_self) (Nat.le_trans h0 c2) (yext_trans hr c1 h0) rfl (yk_set1_ok c3 c6) c4 c5 h4⟩
        show xh_iinc j nL z Y.1 lv st w 0 0 = _
        unfold xh_iinc
        rw [a1]
        dsimp only
        rw [if_pos hk, b1]
      · cases h
    · rw [if_neg hk] at h
      cases h
  · cases h
/-- two ints into one: as a linear form where there is one, else by bounds -/
def yh_bin (g : YL → YL → Option YL) (e : YL → YL → YE) (Y : YS) : Option (List YO) := match Y.2.2.1 with
  | .inl q :: .inl p :: s => (match (match g p q with
    | some x => yint (Y.1, Y.2.1, s, Y.2.2.2) x
    | none => yfr (Y.1, Y.2.1, s, Y.2.2.2) (e p q)) with
    | some (v, K) => some [.inl (Y.1 + 1, Y.2.1, v :: s, K)]
    | none => none)
  | _ => none
theorem yo_bin {g : YL → YL → Option YL} {e : YL → YL → YE} {F : Int × Int → Int × Int → Int × Int} (hF : ∀ (r : YR) (w : XW) (p q : YL), yknow ks w r Y.2.2.2 → yrg (yev (yi r) p) → yrg (yev (yi r) q) → ∃ z, F (yev (yi r) p, yev (yi r) p) (yev (yi r) q, yev (yi r) q) = (z, z) ∧ yrg z ∧ (∀ x, g p q = some x → yrg (yev (yi r) x) → z = yev (yi r) x) ∧ (g p q = none → yein ks (e p q) (.inl (z, z)))) (h : yh_bin g e Y = some outs) (hg : ∀ o ∈ outs, ygoodO f J Post KD ks ow n0 r0 o) : yone f J Post KD ks ow n0 r0 Y (fun lv st w => xh_bin F Y.1 lv st w 0 0) := by
  unfold yh_bin at h
  split at h
  · rename_i q p s hs
    split at h
    · rename_i v K hv
      cases h
      intro h0 r w lv st hr h1 h2 h3 h4
      rw [hs] at h2
      obtain ⟨x1, st1, e1, a1, x2, st2, e2, a2, a3⟩ := h2
      subst e1
      subst e2
      obtain ⟨rfl, q1, q2⟩ := a1
      obtain ⟨rfl, p1, p2⟩ := a2
      obtain ⟨z, b1, b2, b3, b4⟩ := hF r w p q h3 ⟨p1, p2⟩ ⟨q1, q2⟩
      have key : ∃ r', yext (yf_e Y.2.2.2).length r r' ∧ (yf_e Y.2.2.2).length ≤ (yf_e K).length ∧ ylvin r' Y.2.1 lv ∧ ystin r' s st2 ∧ yknow ks w r' K ∧ yvin r' v (.inl (z, z)) := by
        split at hv
        · rename_i x hx
          exact yint_ok (Y := (Y.1, Y.2.1, s, Y.2.2.2)) hv h1 a3 h3 b2 (b3 x hx)
        · rename_i hx
          exact yfr_ok (Y := (Y.1, Y.2.1, s, Y.2.2.2)) hv h1 a3 h3 (b4 hx)
      obtain ⟨r', c1, c2, c3, c4, c5, c6⟩ := key
      refine ⟨_, ?_, yuse (hg _ List.mem_cons_self) (Nat.le_trans h0 c2) (yext_trans hr c1 h0) rfl c3 ⟨_, _, rfl, c6, c4⟩ c5 h4⟩
      show some (Sum.inl (Y.1 + 1, lv, Sum.inl (F (yev (yi r) p, yev (yi r) p) (yev (yi r) q, yev (yi r) q)) :: st2, w, 0, 0)) = _
      rw [b1]
    · cases h
  · cases h
def yh_un (g : YL → Option YL) (e : YL → YE) (Y : YS) : Option (List YO) := match Y.2.2.1 with
  | .inl p :: s => (match (match g p with
    | some x => yint (Y.1, Y.2.1, s, Y.2.2.2) x
    | none => yfr (Y.1, Y.2.1, s, Y.2.2.2) (e p)) with
    | some (v, K) => some [.inl (Y.1 + 1, Y.2.1, v :: s, K)]
    | none => none)
  | _ => none
theorem yo_un {g : YL → Option YL} {e : YL → YE} {F : Int × Int → Int × Int} (hF : ∀ (r : YR) (w : XW) (p : YL), yknow ks w r Y.2.2.2 → yrg (yev (yi r) p) → ∃ z, F (yev (yi r) p, yev (yi r) p) = (z, z) ∧ yrg z ∧ (∀ x, g p = some x → yrg (yev (yi r) x) → z = yev (yi r) x) ∧ (g p = none → yein ks (e p) (.inl (z, z)))) (h : yh_un g e Y = some outs) (hg : ∀ o ∈ outs, ygoodO f J Post KD ks ow n0 r0 o) : yone f J Post KD ks ow n0 r0 Y (fun lv st w => xh_un F Y.1 lv st w 0 0) := by
  unfold yh_un at h
  split at h
  · rename_i p s hs
    split at h
    · rename_i v K hv
      cases h
      intro h0 r w lv st hr h1 h2 h3 h4
      rw [hs] at h2
      obtain ⟨x2, st2, e2, a2, a3⟩ := h2
      subst e2
      obtain ⟨rfl, p1, p2⟩ := a2
      obtain ⟨z, b1, b2, b3, b4⟩ := hF r w p h3 ⟨p1, p2⟩
      have key : ∃ r', yext (yf_e Y.2.2.2).length r r' ∧ (yf_e Y.2.2.2).length ≤ (yf_e K).length ∧ ylvin r' Y.2.1 lv ∧ ystin r' s st2 ∧ yknow ks w r' K ∧ yvin r' v (.inl (z, z)) := by
        split at hv
        · rename_i x hx
          exact yint_ok (Y := (Y.1, Y.2.1, s, Y.2.2.2)) hv h1 a3 h3 b2 (b3 x hx)
        · rename_i hx
          exact yfr_ok (Y := (Y.1, Y.2.1, s, Y.2.2.2)) hv h1 a3 h3 (b4 hx)
      obtain ⟨r', c1, c2, c3, c4, c5, c6⟩ := key
      refine ⟨_, ?_, yuse (hg _ List.mem_cons_self) (Nat.le_trans h0 c2) (yext_trans hr c1 h0) rfl c3 ⟨_, _, rfl, c6, c4⟩ c5 h4⟩
      show some (Sum.inl (Y.1 + 1, lv, Sum.inl (F (yev (yi r) p, yev (yi r) p)) :: st2, w, 0, 0)) = _
      rw [b1]
    · cases h
  · cases h
def yh_dup (Y : YS) : Option (List YO) := match Y.2.2.1 with
  | v :: s => if ycat v = 1 then some [.inl (Y.1 + 1, Y.2.1, v :: v :: s, Y.2.2.2)] else none
  | _ => none
theorem yo_dup (h : yh_dup Y = some outs) (hg : ∀ o ∈ outs, ygoodO f J Post KD ks ow n0 r0 o) : yone f J Post KD ks ow n0 r0 Y (fun lv st w => xh_dup Y.1 lv st w 0 0) := by
  unfold yh_dup at h
  split at h
  · rename_i v s hs
    by_cases hk : ycat v = 1
    · rw [if_pos hk] at h
      cases h
      intro h0 r w lv st hr h1 h2 h3 h4
      rw [hs] at h2
      obtain ⟨x, st', e, a1, a2⟩ := h2
      subst e
      refine ⟨_, ?_, yuse (hg _ List.mem_cons_self) h0 hr rfl h1 ⟨x, _, rfl, a1, x, _, rfl, a1, a2⟩ h3 h4⟩
      show xh_dup Y.1 lv (x :: st') w 0 0 = _
      unfold xh_dup
      dsimp only
      rw [if_pos (by rw [(ykd_ok a1).2]; exact hk)]
    · rw [if_neg hk] at h
      cases h
  · cases h
def yh_goto (a : Nat) (Y : YS) : Option (List YO) := some [.inl (a, Y.2.1, Y.2.2.1, Y.2.2.2)]
theorem yo_goto {a : Nat} (h : yh_goto a Y = some outs) (hg : ∀ o ∈ outs, ygoodO f J Post KD ks ow n0 r0 o) : yone f J Post KD ks ow n0 r0 Y (fun lv st w => xh_goto a lv st w 0 0) := by
  cases h
  intro h0 r w lv st hr h1 h2 h3 h4
  exact ⟨_, rfl, yuse (hg _ List.mem_cons_self) h0 hr rfl h1 h2 h3 h4⟩
end YI
