/-! ===== typed steps: branches, longs ===== -/
section YI
variable {f : XS → Option XR} {J : XS → XS → Prop} {Post : Option XV × XW × Nat × Nat → Prop} {KD : Nat → Option YK} {ks : List Nat} {ow : XW → Prop} {n0 : Nat} {r0 : YR} {Y : YS} {outs : List YO}
def yh_if (c : ClassFile.Cond) (a : Nat) (Y : YS) : Option (List YO) := match Y.2.2.1 with
  | .inl p :: s => some (ybrs a Y.2.1 s Y.2.2.2 (ycnd c (ylck (yf_l Y.2.2.2) p).1 (ylck (yf_l Y.2.2.2) p).2) ++ ybrs (Y.1 + 3) Y.2.1 s Y.2.2.2 (ycnd (yopp c) (ylck (yf_l Y.2.2.2) p).1 (ylck (yf_l Y.2.2.2) p).2))
  | _ => none
theorem yo_if {c : ClassFile.Cond} {a : Nat} (h : yh_if c a Y = some outs) (hg : ∀ o ∈ outs, ygoodO f J Post KD ks ow n0 r0 o) : yone f J Post KD ks ow n0 r0 Y (fun lv st w => xh_if c a Y.1 lv st w 0 0) := by
  unfold yh_if at h
  split at h
  · rename_i p s hs
    cases h
    intro h0 r w lv st hr h1 h2 h3 h4
    rw [hs] at h2
    obtain ⟨x2, st2, e2, a2, a3⟩ := h2
    subst e2
    obtain ⟨rfl, _⟩ := a2
    obtain ⟨o, b1, b2, b3⟩ := ycnd_ok (r := yi r) (x := (ylck (yf_l Y.2.2.2) p).1) (y := (ylck (yf_l Y.2.2.2) p).2) (c := c)
    rw [← ylck_ok h3] at b1
    cases o with
    | true =>
      obtain ⟨K', c1, c2, c3⟩ := ybrs_ok (pc := a) (lv := Y.2.1) (st := s) h3 (b2 rfl)
      refine ⟨.inl (a, lv, st2, w, 0, 0), ?_, yuse (hg _ (List.mem_append_left _ c1)) (by rw [c3]; exact h0) hr rfl h1 a3 c2 h4⟩
      show xh_br (xcmp c (yev (yi r) p, yev (yi r) p) (0, 0)) a Y.1 lv st2 w 0 0 = _
      rw [b1]
      rfl
    | false =>
      obtain ⟨K', c1, c2, c3⟩ := ybrs_ok (pc := Y.1 + 3) (lv := Y.2.1) (st := s) h3 (b3 rfl)
      refine ⟨.inl (Y.1 + 3, lv, st2, w, 0, 0), ?_, yuse (hg _ (List.mem_append_right _ c1)) (by rw [c3]; exact h0) hr rfl h1 a3 c2 h4⟩
      show xh_br (xcmp c (yev (yi r) p, yev (yi r) p) (0, 0)) a Y.1 lv st2 w 0 0 = _
      rw [b1]
      rfl
  · cases h
theorem yknow_env {w : XW} {r : YR} {K : YF} (h : yknow ks w r K) {E : List YE} (hE : yenv ks r E) : yknow ks w r (E, K.2) := ⟨hE, h.2⟩
/-- null or not: what is known of the symbol there -/
def yh_null (neg : Bool) (a : Nat) (Y : YS) : Option (List YO) := match Y.2.2.1 with
  | .inr (.inr (0, s)) :: t => (match (yf_e Y.2.2.2)[s]? with
    | some (1, k, n) => some ((.inl (bif neg then a else Y.1 + 3, Y.2.1, t, (yf_e Y.2.2.2).set s (1, k, 0), Y.2.2.2.2)) :: (if n = 1 then [.inl (bif neg then Y.1 + 3 else a, Y.2.1, t, (yf_e Y.2.2.2).set s (3, 0, 0), Y.2.2.2.2)] else []))
    | some (3, _, _) => some [.inl (bif neg then Y.1 + 3 else a, Y.2.1, t, Y.2.2.2)]
    | _ => none)
  | .inr (.inr (2, _)) :: t => some [.inl (bif neg then Y.1 + 3 else a, Y.2.1, t, Y.2.2.2)]
  | _ => none
theorem xh_null_0 {neg : Bool} {a pc : Nat} {lv : XL} {st : List XV} {w : XW} : xh_null neg a pc lv (.inr (.inr (0, 0)) :: st) w 0 0 = some (.inl (bif neg then pc + 3 else a, lv, st, w, 0, 0)) := by
  cases neg <;> rfl
theorem xh_null_1 {neg : Bool} {a pc i : Nat} {lv : XL} {st : List XV} {w : XW} : xh_null neg a pc lv (.inr (.inr (1, i)) :: st) w 0 0 = some (.inl (bif neg then a else pc + 3, lv, st, w, 0, 0)) := by
  cases neg <;> rfl
theorem yo_null {neg : Bool} {a : Nat} (h : yh_null neg a Y = some outs) (hg : ∀ o ∈ outs, ygoodO f J Post KD ks ow n0 r0 o) : yone f J Post KD ks ow n0 r0 Y (fun lv st w => xh_null neg a Y.1 lv st w 0 0) := by
  unfold yh_null at h
  split at h
  · rename_i s t hs
    split at h
    · rename_i k n he
      cases h
      intro h0 r w lv st hr h1 h2 h3 h4
      rw [hs] at h2
      obtain ⟨x2, st2, e2, ⟨a2, _⟩, a3⟩ := h2
      subst e2
      rcases h3.1 s _ he with ⟨hn, hv⟩ | ⟨i, hv, hk⟩
      · have e3 : x2 = .inr (.inr (0, 0)) := a2.trans hv
        subst e3
        refine ⟨_, xh_null_0, yuse (Y' := (bif neg then Y.1 + 3 else a, Y.2.1, t, (yf_e Y.2.2.2).set s (3, 0, 0), Y.2.2.2.2)) (hg _ (List.mem_cons_of_mem _ (by rw [if_pos hn]; exact List.mem_cons_self))) (by show n0 ≤ ((yf_e Y.2.2.2).set s _).length; rw [List.length_set]; exact h0) hr rfl h1 a3 (yknow_env h3 (yenv_set h3.1 (show yein ks (3, 0, 0) (r s) from hv))) h4⟩
      · have e3 : x2 = .inr (.inr (1, i)) := a2.trans hv
        subst e3
        refine ⟨_, xh_null_1, yuse (Y' := (bif neg then a else Y.1 + 3, Y.2.1, t, (yf_e Y.2.2.2).set s (1, k, 0), Y.2.2.2.2)) (hg _ List.mem_cons_self) (by show n0 ≤ ((yf_e Y.2.2.2).set s _).length; rw [List.length_set]; exact h0) hr rfl h1 a3 (yknow_env h3 (yenv_set h3.1 (show yein ks (1, k, 0) (r s) from Or.inr ⟨i, hv, hk⟩))) h4⟩
    · rename_i k n he
      cases h
      intro h0 r w lv st hr h1 h2 h3 h4
      rw [hs] at h2
      obtain ⟨x2, st2, e2, ⟨a2, _⟩, a3⟩ := h2
      subst e2
      have hv : r s = .inr (.inr (0, 0)) := h3.1 s _ he
      have e3 : x2 = .inr (.inr (0, 0)) := a2.trans hv
      subst e3
      exact ⟨_, xh_null_0, yuse (hg _ List.mem_cons_self) h0 hr rfl h1 a3 h3 h4⟩
    · cases h
  · rename_i s t hs
    cases h
    intro h0 r w lv st hr h1 h2 h3 h4
    rw [hs] at h2
    obtain ⟨x2, st2, e2, a2, a3⟩ := h2
    subst e2
    have e3 : x2 = .inr (.inr (0, 0)) := a2
    subst e3
    exact ⟨_, xh_null_0, yuse (hg _ List.mem_cons_self) h0 hr rfl h1 a3 h3 h4⟩
  · cases h
def ycse (lo : Int) (j : Nat) (p : YL) : List YL := [ydf p (ycst (lo + (j : Int))) 0, ydf (ycst (lo + (j : Int))) p 0]
def yh_table (d lo hi : Int) (offs : Array Int) (Y : YS) : Option (List YO) := match Y.2.2.1 with
  | .inl p :: s => if (decide (0 ≤ (Y.1 : Int) + d) && (decide (hi - lo + 1 = (offs.size : Int)) && offs.toList.all (fun o => decide (0 ≤ (Y.1 : Int) + o)))) = true then some (ybrs ((Y.1 : Int) + d).toNat Y.2.1 s Y.2.2.2 [[ydf (ycst lo) p 1], [ydf p (ycst hi) 1]] ++ ((List.range offs.size).map (fun j => match offs[j]? with
    | some o => ybrs ((Y.1 : Int) + o).toNat Y.2.1 s Y.2.2.2 [ycse lo j p]
    | none => [])).flatten) else none
  | _ => none
theorem yo_table {d lo hi : Int} {offs : Array Int} (h : yh_table d lo hi offs Y = some outs) (hg : ∀ o ∈ outs, ygoodO f J Post KD ks ow n0 r0 o) : yone f J Post KD ks ow n0 r0 Y (fun lv st w => xh_table d lo hi offs Y.1 lv st w 0 0) := by
  unfold yh_table at h
  split at h
  · rename_i p s hs
    split at h
    · rename_i hc
      rw [Bool.and_eq_true, Bool.and_eq_true] at hc
      have c1 := of_decide_eq_true hc.1
      have c2 := of_decide_eq_true hc.2.1
      cases h
      intro h0 r w lv st hr h1 h2 h3 h4
      rw [hs] at h2
      obtain ⟨x2, st2, e2, a2, a3⟩ := h2
      subst e2
      obtain ⟨rfl, _⟩ := a2
      by_cases hd : yev (yi r) p < lo ∨ hi < yev (yi r) p
      · have hL : ∃ l ∈ [[ydf (ycst lo) p 1], [ydf p (ycst hi) 1]], ∀ g ∈ l, 0 ≤ yev (yi r) g := by
          rcases hd with hd | hd
          · refine ⟨_, List.mem_cons_self, fun g hg' => ?_⟩
            rw [List.mem_singleton.mp hg', ydf_ev, ycst_ev]
            omega
          · refine ⟨_, List.mem_cons_of_mem _ List.mem_cons_self, fun g hg' => ?_⟩
            rw [List.mem_singleton.mp hg', ydf_ev, ycst_ev]
            omega
        obtain ⟨K', b1, b2, b3⟩ := ybrs_ok (pc := ((Y.1 : Int) + d).toNat) (lv := Y.2.1) (st := s) h3 hL
        refine ⟨.inl (((Y.1 : Int) + d).toNat, lv, st2, w, 0, 0), ?_, yuse (hg _ (List.mem_append_left _ b1)) (by rw [b3]; exact h0) hr rfl h1 a3 b2 h4⟩
        show xh_table d lo hi offs Y.1 lv (.inl (yev (yi r) p, yev (yi r) p) :: st2) w 0 0 = _
        unfold xh_table
        dsimp only
        rw [if_pos hd, if_pos c1]
      · have hj : (yev (yi r) p - lo).toNat < offs.size := by omega
        obtain ⟨o, ho⟩ : ∃ o, offs[(yev (yi r) p - lo).toNat]? = some o := ⟨_, Array.getElem?_eq_getElem hj⟩
        have c3 := of_decide_eq_true (List.all_eq_true.mp hc.2.2 o (by
          rw [← Array.getElem?_toList] at ho
          exact List.mem_of_getElem? ho))
        have hL : ∃ l ∈ [ycse lo (yev (yi r) p - lo).toNat p], ∀ g ∈ l, 0 ≤ yev (yi r) g := by
          refine ⟨_, List.mem_cons_self, fun g hg' => ?_⟩
          rcases List.mem_cons.mp hg' with hg' | hg'
          · rw [hg', ydf_ev, ycst_ev]
            omega
          · rw [List.mem_singleton.mp hg', ydf_ev, ycst_ev]
            omega
        obtain ⟨K', b1, b2, b3⟩ := ybrs_ok (pc := ((Y.1 : Int) + o).toNat) (lv := Y.2.1) (st := s) h3 hL
        refine ⟨.inl (((Y.1 : Int) + o).toNat, lv, st2, w, 0, 0), ?_, yuse (Y' := (((Y.1 : Int) + o).toNat, Y.2.1, s, K')) (hg _ (List.mem_append_right _ (List.mem_flatten.mpr ⟨_, List.mem_map.mpr ⟨_, List.mem_range.mpr hj, rfl⟩, by rw [ho]; exact b1⟩))) (by rw [b3]; exact h0) hr rfl h1 a3 b2 h4⟩
        show xh_table d lo hi offs Y.1 lv (.inl (yev (yi r) p, yev (yi r) p) :: st2) w 0 0 = _
        unfold xh_table
        dsimp only
        rw [if_neg hd, if_pos rfl, ho]
        dsimp only
        rw [if_pos c3]
    · cases h
  · cases h
-- longs
theorem ylng_64 (x : Int64) : ylng x.toInt := by
  have h1 := Int64.le_toInt x
  have h2 := Int64.toInt_lt x
  exact ⟨by omega, by omega⟩
def ylany : YE := (2, 0, 0)
theorem ylany_in {z : Int} (h : ylng z) : yein ks ylany (.inr (.inl (some z))) := ⟨z, rfl, h, (fun h => by cases h), fun h => by cases h⟩
theorem yev_cst {r : Nat → Int} {q : YL} (h : q.2 = []) : yev r q = q.1 := by
  show q.1 + ysum r q.2 = q.1
  rw [h]
  show q.1 + 0 = q.1
  omega
/-- two longs into one: exact ones exactly, of others nothing is known -/
def yh_lbin (g : Int64 → Int64 → Int64) (Y : YS) : Option (List YO) := match Y.2.2.1 with
  | .inr (.inl q) :: .inr (.inl p) :: s => if q.2 = [] ∧ p.2 = [] then some [.inl (Y.1 + 1, Y.2.1, .inr (.inl (ycst (g (Int64.ofInt p.1) (Int64.ofInt q.1)).toInt)) :: s, Y.2.2.2)] else (match yfr (Y.1, Y.2.1, s, Y.2.2.2) ylany with
    | some (v, K) => some [.inl (Y.1 + 1, Y.2.1, v :: s, K)]
    | none => none)
  | _ => none
theorem yo_lbin {g : Int64 → Int64 → Int64} (h : yh_lbin g Y = some outs) (hg : ∀ o ∈ outs, ygoodO f J Post KD ks ow n0 r0 o) : yone f J Post KD ks ow n0 r0 Y (fun lv st w => xh_lbin (xl2 g) Y.1 lv st w 0 0) := by
  unfold yh_lbin at h
  split at h
  · rename_i q p s hs
    split at h
    · rename_i hc
      cases h
      intro h0 r w lv st hr h1 h2 h3 h4
      rw [hs] at h2
      obtain ⟨x1, st1, e1, a1, x2, st2, e2, a2, a3⟩ := h2
      subst e1
      subst e2
      obtain ⟨rfl, _⟩ := a1
      obtain ⟨rfl, _⟩ := a2
      refine ⟨.inl (Y.1 + 1, lv, .inr (.inl (some (g (Int64.ofInt (yev (yi r) p)) (Int64.ofInt (yev (yi r) q))).toInt)) :: st2, w, 0, 0), rfl, yuse (hg _ List.mem_cons_self) h0 hr rfl h1 ⟨_, _, rfl, ?_, a3⟩ h3 h4⟩
      show _ = _ ∧ ylng _
      rw [ycst_ev, yev_cst hc.1, yev_cst hc.2]
      exact ⟨rfl, ylng_64 _⟩
    · split at h
      · rename_i v K hv
        cases h
        intro h0 r w lv st hr h1 h2 h3 h4
        rw [hs] at h2
        obtain ⟨x1, st1, e1, a1, x2, st2, e2, a2, a3⟩ := h2
        subst e1
        subst e2
        obtain ⟨rfl, _⟩ := a1
        obtain ⟨rfl, _⟩ := a2
        obtain ⟨r', c1, c2, c3, c4, c5, c6⟩ := yfr_ok (Y := (Y.1, Y.2.1, s, Y.2.2.2)) hv h1 a3 h3 (ylany_in (ylng_64 (g (Int64.ofInt (yev (yi r) p)) (Int64.ofInt (yev (yi r) q)))))
        exact ⟨_, rfl, yuse (hg _ List.mem_cons_self) (Nat.le_trans h0 c2) (yext_trans hr c1 h0) rfl c3 ⟨_, _, rfl, c6, c4⟩ c5 h4⟩
      · cases h
  · cases h
def yh_lsh (g : Int64 → Int32 → Int64) (Y : YS) : Option (List YO) := match Y.2.2.1 with
  | .inl q :: .inr (.inl p) :: s => if q.2 = [] ∧ p.2 = [] then some [.inl (Y.1 + 1, Y.2.1, .inr (.inl (ycst (g (Int64.ofInt p.1) (Int32.ofInt q.1)).toInt)) :: s, Y.2.2.2)] else (match yfr (Y.1, Y.2.1, s, Y.2.2.2) ylany with
    | some (v, K) => some [.inl (Y.1 + 1, Y.2.1, v :: s, K)]
    | none => none)
  | _ => none
theorem xls_ex {g : Int64 → Int32 → Int64} {a b : Int} : xls g (some a) (b, b) = some (g (Int64.ofInt a) (Int32.ofInt b)).toInt := by
  unfold xls
  dsimp only
  rw [if_pos rfl]
theorem yo_lsh {g : Int64 → Int32 → Int64} (h : yh_lsh g Y = some outs) (hg : ∀ o ∈ outs, ygoodO f J Post KD ks ow n0 r0 o) : yone f J Post KD ks ow n0 r0 Y (fun lv st w => xh_lsh (xls g) Y.1 lv st w 0 0) := by
  unfold yh_lsh at h
  split at h
  · rename_i q p s hs
    split at h
    · rename_i hc
      cases h
      intro h0 r w lv st hr h1 h2 h3 h4
      rw [hs] at h2
      obtain ⟨x1, st1, e1, a1, x2, st2, e2, a2, a3⟩ := h2
      subst e1
      subst e2
      obtain ⟨rfl, _⟩ := a1
      obtain ⟨rfl, _⟩ := a2
      refine ⟨.inl (Y.1 + 1, lv, .inr (.inl (some (g (Int64.ofInt (yev (yi r) p)) (Int32.ofInt (yev (yi r) q))).toInt)) :: st2, w, 0, 0), ?_, yuse (hg _ List.mem_cons_self) h0 hr rfl h1 ⟨_, _, rfl, ?_, a3⟩ h3 h4⟩
      · show some (Sum.inl (Y.1 + 1, lv, Sum.inr (Sum.inl (xls g (some (yev (yi r) p)) (yev (yi r) q, yev (yi r) q))) :: st2, w, 0, 0)) = _
        rw [xls_ex]
      · show _ = _ ∧ ylng _
        rw [ycst_ev, yev_cst hc.1, yev_cst hc.2]
        exact ⟨rfl, ylng_64 _⟩
    · split at h
      · rename_i v K hv
        cases h
        intro h0 r w lv st hr h1 h2 h3 h4
        rw [hs] at h2
        obtain ⟨x1, st1, e1, a1, x2, st2, e2, a2, a3⟩ := h2
        subst e1
        subst e2
        obtain ⟨rfl, _⟩ := a1
        obtain ⟨rfl, _⟩ := a2
        obtain ⟨r', c1, c2, c3, c4, c5, c6⟩ := yfr_ok (Y := (Y.1, Y.2.1, s, Y.2.2.2)) hv h1 a3 h3 (ylany_in (ylng_64 (g (Int64.ofInt (yev (yi r) p)) (Int32.ofInt (yev (yi r) q)))))
        refine ⟨_, ?_, yuse (hg _ List.mem_cons_self) (Nat.le_trans h0 c2) (yext_trans hr c1 h0) rfl c3 ⟨_, _, rfl, c6, c4⟩ c5 h4⟩
        show some (Sum.inl (Y.1 + 1, lv, Sum.inr (Sum.inl (xls g (some (yev (yi r) p)) (yev (yi r) q, yev (yi r) q))) :: st2, w, 0, 0)) = _
        rw [xls_ex]
      · cases h
  · cases h
def yh_i2l (Y : YS) : Option (List YO) := match Y.2.2.1 with
  | .inl p :: s => some [.inl (Y.1 + 1, Y.2.1, .inr (.inl p) :: s, Y.2.2.2)]
  | _ => none
theorem yo_i2l (h : yh_i2l Y = some outs) (hg : ∀ o ∈ outs, ygoodO f J Post KD ks ow n0 r0 o) : yone f J Post KD ks ow n0 r0 Y (fun lv st w => xh_i2l Y.1 lv st w 0 0) := by
  unfold yh_i2l at h
  split at h
  · rename_i p s hs
    cases h
    intro h0 r w lv st hr h1 h2 h3 h4
    rw [hs] at h2
    obtain ⟨x2, st2, e2, a2, a3⟩ := h2
    subst e2
    obtain ⟨rfl, p1, p2⟩ := a2
    refine ⟨_, ?_, yuse (hg _ List.mem_cons_self) h0 hr rfl h1 ⟨.inr (.inl (some (yev (yi r) p))), _, rfl, ⟨rfl, by constructor <;> omega⟩, a3⟩ h3 h4⟩
    show some (Sum.inl (Y.1 + 1, lv, Sum.inr (Sum.inl (if yev (yi r) p = yev (yi r) p then some (yev (yi r) p) else none)) :: st2, w, 0, 0)) = _
    rw [if_pos rfl]
  · cases h
def yh_l2i (Y : YS) : Option (List YO) := match Y.2.2.1 with
  | .inr (.inl _) :: s => (match yfr (Y.1, Y.2.1, s, Y.2.2.2) ytop with
    | some (v, K) => some [.inl (Y.1 + 1, Y.2.1, v :: s, K)]
    | none => none)
  | _ => none
theorem yo_l2i (h : yh_l2i Y = some outs) (hg : ∀ o ∈ outs, ygoodO f J Post KD ks ow n0 r0 o) : yone f J Post KD ks ow n0 r0 Y (fun lv st w => xh_l2i Y.1 lv st w 0 0) := by
  unfold yh_l2i at h
  split at h
  · rename_i p s hs
    split at h
    · rename_i v K hv
      cases h
      intro h0 r w lv st hr h1 h2 h3 h4
      rw [hs] at h2
      obtain ⟨x2, st2, e2, a2, a3⟩ := h2
      subst e2
      obtain ⟨rfl, _⟩ := a2
      obtain ⟨r', c1, c2, c3, c4, c5, c6⟩ := yfr_ok (Y := (Y.1, Y.2.1, s, Y.2.2.2)) hv h1 a3 h3 (ytop_in (x_rng (Int64.ofInt (yev (yi r) p)).toInt32))
      exact ⟨_, rfl, yuse (hg _ List.mem_cons_self) (Nat.le_trans h0 c2) (yext_trans hr c1 h0) rfl c3 ⟨_, _, rfl, c6, c4⟩ c5 h4⟩
    · cases h
  · cases h
end YI
