/-! ===== typed steps: division by a number, the rest ===== -/
section YI
variable {f : XS → Option XR} {J : XS → XS → Prop} {Post : Option XV × XW × Nat × Nat → Prop} {KD : Nat → Option YK} {ks : List Nat} {ow : XW → Prop} {n0 : Nat} {r0 : YR} {Y : YS} {outs : List YO}
theorem yi_int {r : YR} {s : Nat} {a b : Int} (h : r s = .inl (a, b)) : yi r s = a := by
  unfold yi
  rw [h]
def ybl (K : YF) : YV → Bool
  | .inl x => yprv K x && yprv K (ydf (ycst 1) x 0)
  | _ => false
theorem ybl_ok {w : XW} {r : YR} {K : YF} (h3 : yknow ks w r K) {v : YV} {x : XV} (hv : yvin r v x) (h : ybl K v = true) : xbool x = true := by
  unfold ybl at h
  split at h
  · rename_i y
    rw [Bool.and_eq_true] at h
    have c1 := yprv_ok h3 h.1
    have c2 := yprv_ok h3 h.2
    rw [ydf_ev, ycst_ev] at c2
    obtain ⟨e1, _⟩ := hv
    rw [e1]
    exact decide_eq_true (show 0 ≤ yev (yi r) y ∧ yev (yi r) y ≤ 1 from ⟨by omega, by omega⟩)
  · cases h
def yh_lcmp (Y : YS) : Option (List YO) := match Y.2.2.1 with
  | .inr (.inl q) :: .inr (.inl p) :: s => if (ylin (yf_e Y.2.2.2).length p && ylin (yf_e Y.2.2.2).length q) = true then (match yfr (Y.1, Y.2.1, s, Y.2.2.2) (0, -1, 1) with
    | some (v, K) => some [.inl (Y.1 + 1, Y.2.1, v :: s, yf_e K, yf_f K, yf_m K, yf_a K, ((yf_e Y.2.2.2).length, (p, q)) :: yf_l K)]
    | none => none) else none
  | _ => none
theorem yo_lcmp (h : yh_lcmp Y = some outs) (hg : ∀ o ∈ outs, ygoodO f J Post KD ks ow n0 r0 o) : yone f J Post KD ks ow n0 r0 Y (fun lv st w => xh_lcmp Y.1 lv st w 0 0) := by
  unfold yh_lcmp at h
  split at h
  · rename_i q p s hs
    split at h
    · rename_i hl
      rw [Bool.and_eq_true] at hl
      split at h
      · rename_i v K hv
        cases h
        intro h0 r w lv st hr h1 h2 h3 h4
        rw [hs] at h2
        obtain ⟨x1, st1, e1, a1, x2, st2, e2, a2, a3⟩ := h2
        subst e1
        subst e2
        obtain ⟨rfl, _⟩ := a1
        obtain ⟨rfl, _⟩ := a2
        have hb : -1 ≤ ysgn (yev (yi r) p) (yev (yi r) q) ∧ ysgn (yev (yi r) p) (yev (yi r) q) ≤ 1 := by
          unfold ysgn
          by_cases h1 : yev (yi r) p < yev (yi r) q
          · rw [if_pos h1]
            omega
          · rw [if_neg h1]
            by_cases h2 : yev (yi r) p = yev (yi r) q
            · rw [if_pos h2]
              omega
            · rw [if_neg h2]
              omega
        obtain ⟨r', c1, c2, c3, c4, c5, c6, c7⟩ := yfr_sym (Y := (Y.1, Y.2.1, s, Y.2.2.2)) (x := .inl (ysgn (yev (yi r) p) (yev (yi r) q), ysgn (yev (yi r) p) (yev (yi r) q))) hv h1 a3 h3 ⟨_, rfl, hb.1, hb.2, by omega, by omega⟩
        refine ⟨.inl (Y.1 + 1, lv, .inl (ysgn (yev (yi r) p) (yev (yi r) q), ysgn (yev (yi r) p) (yev (yi r) q)) :: st2, w, 0, 0), rfl, yuse (hg _ List.mem_cons_self) (Nat.le_trans h0 c2) (yext_trans hr c1 h0) rfl c3 ⟨_, _, rfl, c6, c4⟩ ⟨c5.1, c5.2.1, c5.2.2.1, c5.2.2.2.1, fun g hg' => ?_⟩ h4⟩
        rcases List.mem_cons.mp hg' with hg' | hg'
        · subst hg'
          dsimp only
          rw [yev_ext c1 hl.1, yev_ext c1 hl.2]
          exact yi_int c7
        · exact c5.2.2.2.2 g hg'
      · cases h
    · cases h
  · cases h
def yh_dup2 (Y : YS) : Option (List YO) := match Y.2.2.1 with
  | v :: u :: s => if ycat v = 1 ∧ ycat u = 1 then some [.inl (Y.1 + 1, Y.2.1, v :: u :: v :: u :: s, Y.2.2.2)] else none
  | _ => none
theorem yo_dup2 (h : yh_dup2 Y = some outs) (hg : ∀ o ∈ outs, ygoodO f J Post KD ks ow n0 r0 o) : yone f J Post KD ks ow n0 r0 Y (fun lv st w => xh_dup2 Y.1 lv st w 0 0) := by
  unfold yh_dup2 at h
  split at h
  · rename_i v u s hs
    split at h
    · rename_i hk
      cases h
      intro h0 r w lv st hr h1 h2 h3 h4
      rw [hs] at h2
      obtain ⟨x, st', e, a1, x2, st2, e2, a2, a3⟩ := h2
      subst e
      subst e2
      refine ⟨_, ?_, yuse (hg _ List.mem_cons_self) h0 hr rfl h1 ⟨x, _, rfl, a1, x2, _, rfl, a2, x, _, rfl, a1, x2, _, rfl, a2, a3⟩ h3 h4⟩
      show xh_dup2 Y.1 lv (x :: x2 :: st2) w 0 0 = _
      unfold xh_dup2
      dsimp only
      rw [if_neg (by rw [(ykd_ok a1).2, hk.1]; decide), if_pos (by rw [(ykd_ok a2).2]; exact hk.2)]
    · cases h
  · cases h
def yh_alen (KD : Nat → Option YK) (Y : YS) : Option (List YO) := match Y.2.2.1 with
  | .inr (.inr (0, s)) :: t => (match (yf_e Y.2.2.2)[s]? with
    | some (1, k, n) => (match KD k.toNat with
      | some (.inr (_, m, _)) => if n ≠ 1 ∧ m < 1000 then some [.inl (Y.1 + 1, Y.2.1, .inl (ycst (m : Int)) :: t, Y.2.2.2)] else none
      | _ => none)
    | _ => none)
  | _ => none
theorem yo_alen {exc : List (List XV)} (h : yh_alen KD Y = some outs) (hg : ∀ o ∈ outs, ygoodO f J Post KD ks ow n0 r0 o) : yone f J Post KD ks ow n0 r0 Y (fun lv st w => xh_alen exc Y.1 lv st w 0 0) := by
  unfold yh_alen at h
  split at h
  · rename_i s t hs
    split at h
    · rename_i k n he
      split at h
      · rename_i t' m ea hd
        split at h
        · rename_i hc
          obtain ⟨hn, hm⟩ := hc
          cases h
          intro h0 r w lv st hr h1 h2 h3 h4
          rw [hs] at h2
          obtain ⟨x2, st2, e2, ⟨a2, _⟩, a3⟩ := h2
          subst e2
          obtain ⟨i, hv, hk⟩ := (h3.1 s _ he).resolve_left (fun hh => hn hh.1)
          have e3 : x2 = .inr (.inr (1, i)) := a2.trans hv
          subst e3
          obtain ⟨es, w1, w2, w3⟩ := yheap_a h4.1 hk hd
          refine ⟨.inl (Y.1 + 1, lv, xi (es.length : Int) :: st2, w, 0, 0), ?_, yuse (hg _ List.mem_cons_self) h0 hr rfl h1 ⟨_, _, rfl, ?_, a3⟩ h3 h4⟩
          · show xh_alen exc Y.1 lv (.inr (.inr (1, i)) :: st2) w 0 0 = _
            unfold xh_alen xarr
            dsimp only
            rw [if_pos rfl, w1]
            dsimp only
            rw [if_pos (show es.length < 2147483648 by omega)]
          · rw [w2]
            refine ⟨?_, ?_, ?_⟩
            · rw [ycst_ev]
              rfl
            · rw [ycst_ev]
              omega
            · rw [ycst_ev]
              omega
        · cases h
      · cases h
    · cases h
  · cases h
/-- the answer -/
def yh_ret (kd : Nat) (ty : Option FieldType) (Y : YS) : Option (List YO) := match Y.2.2.1 with
  | [v] => if ykd v = kd ∧ (!xz ty || ybl Y.2.2.2 v) = true then some [.inr (some v, Y.2.2.2)] else none
  | _ => none
theorem yo_ret {kd : Nat} {ty : Option FieldType} (h : yh_ret kd ty Y = some outs) (hg : ∀ o ∈ outs, ygoodO f J Post KD ks ow n0 r0 o) : yone f J Post KD ks ow n0 r0 Y (fun _ st w => xh_ret kd ty st w 0 0) := by
  unfold yh_ret at h
  split at h
  · rename_i v hs
    split at h
    · rename_i hc
      cases h
      intro h0 r w lv st hr h1 h2 h3 h4
      rw [hs] at h2
      obtain ⟨x, st', e, a1, a2⟩ := h2
      subst e
      have a2 : st' = [] := a2
      subst a2
      refine ⟨.inr (some x, w, 0, 0), ?_, hg _ List.mem_cons_self h0 r w x hr h3 h4 a1⟩
      show xh_ret kd ty [x] w 0 0 = _
      have hb : (!xz ty || xbool x) = true := by
        have hc2 := hc.2
        rw [Bool.or_eq_true] at hc2 ⊢
        rcases hc2 with hc2 | hc2
        · exact Or.inl hc2
        · exact Or.inr (ybl_ok h3 a1 hc2)
      unfold xh_ret
      dsimp only
      rw [if_pos ⟨by rw [(ykd_ok a1).1]; exact hc.1, hb⟩]
    · cases h
  · cases h
def yh_retv (Y : YS) : Option (List YO) := match Y.2.2.1 with
  | [] => some [.inr (none, Y.2.2.2)]
  | _ => none
theorem yo_retv (h : yh_retv Y = some outs) (hg : ∀ o ∈ outs, ygoodO f J Post KD ks ow n0 r0 o) : yone f J Post KD ks ow n0 r0 Y (fun _ st w => xh_retv st w 0 0) := by
  unfold yh_retv at h
  split at h
  · rename_i hs
    cases h
    intro h0 r w lv st hr h1 h2 h3 h4
    rw [hs] at h2
    have h2 : st = [] := h2
    subst h2
    exact ⟨_, rfl, hg _ List.mem_cons_self h0 r w hr h3 h4⟩
  · cases h
/-- a store of a boolean -/
def yh_zst (KD : Nat → Option YK) (pu : Nat) (Y : YS) : Option (List YO) := match Y.2.2.1 with
  | v :: _ => if ybl Y.2.2.2 v = true then yh_ast KD pu 2 0 Y else none
  | _ => none
theorem yo_zst {pu : Nat} (ho : ymd pu ks ow) (h : yh_zst KD pu Y = some outs) (hg : ∀ o ∈ outs, ygoodO f J Post KD ks ow n0 r0 o) : yone f J Post KD ks ow n0 r0 Y (fun lv st w => xh_zst Y.1 lv st w 0 0) := by
  unfold yh_zst at h
  split at h
  · rename_i v t hs
    split at h
    · rename_i hc
      have key := yo_ast (f := f) (J := J) (Post := Post) (ks := ks) (n0 := n0) (r0 := r0) ho h hg
      intro h0 r w lv st hr h1 h2 h3 h4
      obtain ⟨o', k1, k2⟩ := key h0 r w lv st hr h1 h2 h3 h4
      rw [hs] at h2
      obtain ⟨x1, st1, e1, a1, _⟩ := h2
      subst e1
      refine ⟨o', ?_, k2⟩
      show xh_zst Y.1 lv (x1 :: st1) w 0 0 = _
      unfold xh_zst
      dsimp only
      rw [if_pos (ybl_ok h3 a1 hc)]
      exact k1
    · cases h
  · cases h
end YI
