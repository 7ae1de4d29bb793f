/-! ===== by hand: rows and texts of the class ===== -/
theorem zCA_up {w w' : XW} {S : ZS} {s : Nat} {o : Option (List Int)} (h : zCA w S) (hs : s < 10) (hw : ∀ i : Nat, i ≠ 25 + 2 * s → i ≠ 26 + 2 * s → w'[i]? = w[i]?) (hn : zCs w' s o) : zCA w' (zup S s o) := by
  refine ⟨(hw 1 (by omega) (by omega)).trans h.1, (hw 2 (by omega) (by omega)).trans h.2.1, fun k hk => ?_⟩
  by_cases e : k = s
  · subst e
    rw [zup_at]
    exact hn
  · rw [zup_ne e]
    obtain ⟨z, es, h1, h2, h3⟩ := h.2.2 k hk
    exact ⟨z, es, (hw _ (by omega) (by omega)).trans h1, (hw _ (by omega) (by omega)).trans h2, h3⟩
theorem zCA_eq {w w' : XW} {S : ZS} (h : zCA w S) (hw : ∀ i : Nat, i < 57 → w'[i]? = w[i]?) : zCA w' S := by
  refine ⟨(hw 1 (by omega)).trans h.1, (hw 2 (by omega)).trans h.2.1, fun k hk => ?_⟩
  obtain ⟨z, es, h1, h2, h3⟩ := h.2.2 k hk
  exact ⟨z, es, (hw _ (by omega)).trans h1, (hw _ (by omega)).trans h2, h3⟩
theorem zMB_eq {w w' : XW} {T : ZS} {i j base B : Nat} (h : zMB w T i j base B) (h1 : w'[i]? = w[i]?) (h2 : w'[j]? = w[j]?) : zMB w' T i j base B := by
  obtain ⟨sz, es, a1, a2, a3⟩ := h
  exact ⟨sz, es, h1.trans a1, h2.trans a2, a3⟩
theorem zMA_eq {w w' : XW} {T : ZS} (h : zMA w T) (hw : ∀ i : Nat, 57 ≤ i → w'[i]? = w[i]?) : zMA w' T := ⟨zMB_eq h.1 (hw _ (by decide)) (hw _ (by decide)), zMB_eq h.2 (hw _ (by decide)) (hw _ (by decide))⟩
def zU (ks : List Nat) (w : XW) (S T : ZS) : Prop := yheap yKD ks w ∧ zK ks ∧ zCA w S ∧ zMA w T
theorem zks_o {ks : List Nat} (hK : zK ks) {s : Nat} (h : s < 10) : ks[25 + 2 * s]? = some 3 := hK.at (zko h)
theorem zks_a {ks : List Nat} (hK : zK ks) {s : Nat} (h : s < 10) : ks[26 + 2 * s]? = some 4 := hK.at (zka h)
theorem zU_rows {ks : List Nat} {w w' : XW} {S T : ZS} (hU : zU ks w S T) (h4 : yheap yKD ks w') (hr : yrows ks w w') : zU ks w' S T := by
  obtain ⟨_, hK, hC, hM⟩ := hU
  refine ⟨h4, hK, ⟨(hr 1 1 (hK.at rfl) (by omega)).trans hC.1, (hr 2 2 (hK.at rfl) (by omega)).trans hC.2.1, fun s hs => ?_⟩, zMB_eq hM.1 (hr 59 32 (hK.at rfl) (by omega)) (hr 60 33 (hK.at rfl) (by omega)), zMB_eq hM.2 (hr 62 35 (hK.at rfl) (by omega)) (hr 63 36 (hK.at rfl) (by omega))⟩
  obtain ⟨z, es, h1, h2, h3⟩ := hC.2.2 s hs
  exact ⟨z, es, (hr _ 3 (zks_o hK hs) (by omega)).trans h1, (hr _ 4 (zks_a hK hs) (by omega)).trans h2, h3⟩
theorem zf0 {ks : List Nat} {w : XW} (h4 : yheap yKD ks w) (hK : zK ks) : ∃ fs, w[0]? = some (.inl (9, fs)) ∧ fs[0]? = some (.inr (.inr (1, 1))) ∧ fs[1]? = some (.inr (.inr (1, 2))) := by
  have h0 : ks[0]? = some 0 := hK.at rfl
  obtain ⟨fs, hw, hl, _⟩ := yheap_f h4 h0 (show yKD 0 = some yK_0 from rfl)
  obtain ⟨v, g, hv⟩ := yfld h4 h0 (show yKD 0 = some yK_0 from rfl) hw 0 rfl
  obtain ⟨p, rfl, hp⟩ := yrf hv
  have e := hK.un (q := 1) rfl (fun p' => zu_1) hp
  subst e
  obtain ⟨v, g2, hv⟩ := yfld h4 h0 (show yKD 0 = some yK_0 from rfl) hw 1 rfl
  obtain ⟨p, rfl, hp⟩ := yrf hv
  have e := hK.un (q := 2) rfl (fun p' => zu_2) hp
  subst e
  exact ⟨fs, hw, g, g2⟩
theorem zf57 {ks : List Nat} {w : XW} (h4 : yheap yKD ks w) (hK : zK ks) : ∃ fs, w[57]? = some (.inl (10, fs)) ∧ fs[7]? = some (.inr (.inr (1, 59))) ∧ fs[8]? = some (.inr (.inr (1, 60))) ∧ fs[9]? = some (.inr (.inr (1, 61))) ∧ fs[10]? = some (.inr (.inr (1, 62))) ∧ fs[11]? = some (.inr (.inr (1, 63))) := by
  have h0 : ks[57]? = some 30 := hK.at rfl
  obtain ⟨fs, hw, hl, _⟩ := yheap_f h4 h0 (show yKD 30 = some yK_30 from rfl)
  obtain ⟨v, g7, hv⟩ := yfld h4 h0 (show yKD 30 = some yK_30 from rfl) hw 7 rfl
  obtain ⟨p, rfl, hp⟩ := yrf hv
  have e := hK.un (q := 59) rfl (fun p' => zu_32) hp
  subst e
  obtain ⟨v, g8, hv⟩ := yfld h4 h0 (show yKD 30 = some yK_30 from rfl) hw 8 rfl
  obtain ⟨p, rfl, hp⟩ := yrf hv
  have e := hK.un (q := 60) rfl (fun p' => zu_33) hp
  subst e
  obtain ⟨v, g9, hv⟩ := yfld h4 h0 (show yKD 30 = some yK_30 from rfl) hw 9 rfl
  obtain ⟨p, rfl, hp⟩ := yrf hv
  have e := hK.un (q := 61) rfl (fun p' => zu_34) hp
  subst e
  obtain ⟨v, g10, hv⟩ := yfld h4 h0 (show yKD 30 = some yK_30 from rfl) hw 10 rfl
  obtain ⟨p, rfl, hp⟩ := yrf hv
  have e := hK.un (q := 62) rfl (fun p' => zu_35) hp
  subst e
  obtain ⟨v, g11, hv⟩ := yfld h4 h0 (show yKD 30 = some yK_30 from rfl) hw 11 rfl
  obtain ⟨p, rfl, hp⟩ := yrf hv
  have e := hK.un (q := 63) rfl (fun p' => zu_36) hp
  subst e
  exact ⟨fs, hw, g7, g8, g9, g10, g11⟩
section YH
variable {l : Launch} {D : va_G} {tA : Nat → ClassId} {ex : List Nat} {sc : List XV}
theorem zex {M : XM} {j : Nat} (hM : xMT j = some M) {as : List XV} {w : XW} {ro : Option XV} {w' : XW} (hl : (as.map xcat).sum ≤ xm_l M) (h : yreach (ySt sc M) (yJm l D tA ex sc M) (fun q => q = (ro, w', 0, 0)) (0, xk_args 0 as, [], w, 0, 0)) : XMet l D vwCl (tysX tA) tA ex (xSTX ++ [sc]) xSV xNW xNF xTs M as w ro w' := by
  obtain ⟨ro2, w2, m1, m2⟩ := yco_of (l := l) (D := D) (tA := tA) (ex := ex) (sc := sc) hM hl (fun q hq => by rw [hq]) h
  cases m2
  exact m1
set_option maxRecDepth 4000 in
theorem zfound {ks : List Nat} {w : XW} {S T : ZS} (hU : zU ks w S T) {v : Int} (h1 : 1 ≤ v ∧ v ≤ 5) : ∃ w', XMet l D vwCl (tysX tA) tA ex (xSTX ++ [sc]) xSV xNW xNF xTs xm10 [.inr (.inr (1, 0)), .inl (v, v)] w (some (.inl (-3, -3))) w' ∧ zU ks w' S T := by
  obtain ⟨ro, w', m1, m2, _, m4, _, _, A, hA, a1, _⟩ := yall (l := l) (D := D) (tA := tA) (ex := ex) (sc := sc) 10 xm10 _ rfl (yct_of (L := yD505) (i := 503) (d := yD_2) rfl) ks [.inr (.inr (1, 0)), .inl (v, v)] w [] ⟨_, _, rfl, Or.inr ⟨0, rfl, hU.2.1.at rfl⟩, _, _, rfl, ⟨v, rfl, h1.1, h1.2, by omega, by omega⟩, rfl⟩ hU.1 rfl (fun g hg => by cases hg)
  rw [List.mem_singleton.mp hA] at a1
  have e : ro = some (.inl (-3, -3)) := a1.1
  subst e
  exact ⟨w', m1, zU_rows hU m2 (m4 rfl)⟩
set_option maxRecDepth 4000 in
theorem zmeets {ks : List Nat} {w : XW} {S T : ZS} (hU : zU ks w S T) {v : Int} (h1 : 1 ≤ v ∧ v ≤ 5) : ∃ w', XMet l D vwCl (tysX tA) tA ex (xSTX ++ [sc]) xSV xNW xNF xTs xm161 [.inr (.inr (1, 57)), .inl (v, v)] w (some (.inl (-3, -3))) w' ∧ zU ks w' S T := by
  obtain ⟨ro, w', m1, m2, _, m4, _, _, A, hA, a1, _⟩ := yall (l := l) (D := D) (tA := tA) (ex := ex) (sc := sc) 161 xm161 _ rfl (yct_of (L := yD505) (i := 226) (d := yD_279) rfl) ks [.inr (.inr (1, 57)), .inl (v, v)] w [] ⟨_, _, rfl, Or.inr ⟨57, rfl, hU.2.1.at rfl⟩, _, _, rfl, ⟨v, rfl, h1.1, h1.2, by omega, by omega⟩, rfl⟩ hU.1 rfl (fun g hg => by cases hg)
  rw [List.mem_singleton.mp hA] at a1
  have e : ro = some (.inl (-3, -3)) := a1.1
  subst e
  exact ⟨w', m1, zU_rows hU m2 (m4 rfl)⟩
set_option maxRecDepth 4000 in
theorem ztell {ks : List Nat} {w : XW} {S T : ZS} (hU : zU ks w S T) {v : Int} (h1 : yrg v) : ∃ w', XMet l D vwCl (tysX tA) tA ex (xSTX ++ [sc]) xSV xNW xNF xTs xm15 [.inr (.inr (1, 0)), .inl (v, v)] w (some (.inl (1, 1))) w' ∧ zU ks w' S T := by
  obtain ⟨ro, w', m1, m2, _, m4, _, _, A, hA, a1, _⟩ := yall (l := l) (D := D) (tA := tA) (ex := ex) (sc := sc) 15 xm15 _ rfl (yct_of (L := yD505) (i := 498) (d := yD_7) rfl) ks [.inr (.inr (1, 0)), .inl (v, v)] w [] ⟨_, _, rfl, Or.inr ⟨0, rfl, hU.2.1.at rfl⟩, _, _, rfl, ytop_in h1, rfl⟩ hU.1 rfl (fun g hg => by cases hg)
  rw [List.mem_singleton.mp hA] at a1
  have e : ro = some (.inl (1, 1)) := a1.1
  subst e
  exact ⟨w', m1, zU_rows hU m2 (m4 rfl)⟩
theorem zrow_in {ks : List Nat} {w : XW} {S T : ZS} (hU : zU ks w S T) {r : Nat} (hr : r < 6) : XMet l D vwCl (tysX tA) tA ex (xSTX ++ [sc]) xSV xNW xNF xTs xm9 [.inr (.inr (1, 0)), .inl ((r : Int), (r : Int))] w (some (.inr (.inr (1, 25 + 2 * (0 + r))))) w := by
  obtain ⟨fs, hw, g1, g2⟩ := zf0 hU.1 hU.2.1
  refine zex (j := 9) rfl (Nat.le_of_ble_eq_true rfl) ?_
  refine yreach.at (S' := (1, [(0, .inr (.inr (1, 0))), (1, .inl ((r : Int), (r : Int)))], [.inl ((r : Int), (r : Int))], w, 0, 0)) (q := _) rfl rfl ?_
  refine yreach.at (S' := (4, [(0, .inr (.inr (1, 0))), (1, .inl ((r : Int), (r : Int)))], [], w, 0, 0)) (q := _) rfl (sx_if (o := false) (zcmp (show xcmp .lt _ _ = _ from xlt_of) (decide_eq_false (by omega)))) ?_
  refine yreach.at (S' := (5, [(0, .inr (.inr (1, 0))), (1, .inl ((r : Int), (r : Int)))], [.inl ((r : Int), (r : Int))], w, 0, 0)) (q := _) rfl rfl ?_
  refine yreach.at (S' := (7, [(0, .inr (.inr (1, 0))), (1, .inl ((r : Int), (r : Int)))], [.inl (6, 6), .inl ((r : Int), (r : Int))], w, 0, 0)) (q := _) rfl rfl ?_
  refine yreach.at (S' := (10, [(0, .inr (.inr (1, 0))), (1, .inl ((r : Int), (r : Int)))], [], w, 0, 0)) (q := _) rfl (sx_icmp (o := false) (zcmp xge_of (decide_eq_false (by omega)))) ?_
  refine yreach.at (S' := (11, [(0, .inr (.inr (1, 0))), (1, .inl ((r : Int), (r : Int)))], [.inr (.inr (1, 0))], w, 0, 0)) (q := _) rfl rfl ?_
  refine yreach.at (S' := (14, [(0, .inr (.inr (1, 0))), (1, .inl ((r : Int), (r : Int)))], [.inr (.inr (1, 1))], w, 0, 0)) (q := _) rfl (sx_get hw g1) ?_
  refine yreach.at (S' := (15, [(0, .inr (.inr (1, 0))), (1, .inl ((r : Int), (r : Int)))], [.inl ((r : Int), (r : Int)), .inr (.inr (1, 1))], w, 0, 0)) (q := _) rfl rfl ?_
  refine yreach.at (S' := (16, [(0, .inr (.inr (1, 0))), (1, .inl ((r : Int), (r : Int)))], [.inr (.inr (1, 25 + 2 * (0 + r)))], w, 0, 0)) (q := _) rfl (sx_aald hU.2.2.1.1 (zread (by rw [Nat.zero_add]; exact zr1_at hr))) ?_
  refine yreach.at (S' := (20, [(0, .inr (.inr (1, 0))), (1, .inl ((r : Int), (r : Int)))], [.inr (.inr (1, 25 + 2 * (0 + r)))], w, 0, 0)) (q := _) rfl rfl ?_
  exact yreach.ret (q := (some (.inr (.inr (1, 25 + 2 * (0 + r)))), w, 0, 0)) ((xstep_at rfl).trans rfl) rfl
theorem zrow_no {ks : List Nat} {w : XW} {S T : ZS} (hU : zU ks w S T) {a : Int} (ha : ¬ (0 ≤ a ∧ a < 6)) : XMet l D vwCl (tysX tA) tA ex (xSTX ++ [sc]) xSV xNW xNF xTs xm9 [.inr (.inr (1, 0)), .inl (a, a)] w (some (.inr (.inr (0, 0)))) w := by
  refine zex (j := 9) rfl (Nat.le_of_ble_eq_true rfl) ?_
  by_cases h : a < 0
  · refine yreach.at (S' := (1, [(0, .inr (.inr (1, 0))), (1, .inl (a, a))], [.inl (a, a)], w, 0, 0)) (q := _) rfl rfl ?_
    refine yreach.at (S' := (19, [(0, .inr (.inr (1, 0))), (1, .inl (a, a))], [], w, 0, 0)) (q := _) rfl (sx_if (o := true) (zcmp (show xcmp .lt _ _ = _ from xlt_of) (decide_eq_true (by omega)))) ?_
    refine yreach.at (S' := (20, [(0, .inr (.inr (1, 0))), (1, .inl (a, a))], [.inr (.inr (0, 0))], w, 0, 0)) (q := _) rfl rfl ?_
    exact yreach.ret (q := (some (.inr (.inr (0, 0))), w, 0, 0)) ((xstep_at rfl).trans rfl) rfl
  · refine yreach.at (S' := (1, [(0, .inr (.inr (1, 0))), (1, .inl (a, a))], [.inl (a, a)], w, 0, 0)) (q := _) rfl rfl ?_
    refine yreach.at (S' := (4, [(0, .inr (.inr (1, 0))), (1, .inl (a, a))], [], w, 0, 0)) (q := _) rfl (sx_if (o := false) (zcmp (show xcmp .lt _ _ = _ from xlt_of) (decide_eq_false (by omega)))) ?_
    refine yreach.at (S' := (5, [(0, .inr (.inr (1, 0))), (1, .inl (a, a))], [.inl (a, a)], w, 0, 0)) (q := _) rfl rfl ?_
    refine yreach.at (S' := (7, [(0, .inr (.inr (1, 0))), (1, .inl (a, a))], [.inl (6, 6), .inl (a, a)], w, 0, 0)) (q := _) rfl rfl ?_
    refine yreach.at (S' := (19, [(0, .inr (.inr (1, 0))), (1, .inl (a, a))], [], w, 0, 0)) (q := _) rfl (sx_icmp (o := true) (zcmp xge_of (decide_eq_true (by omega)))) ?_
    refine yreach.at (S' := (20, [(0, .inr (.inr (1, 0))), (1, .inl (a, a))], [.inr (.inr (0, 0))], w, 0, 0)) (q := _) rfl rfl ?_
    exact yreach.ret (q := (some (.inr (.inr (0, 0))), w, 0, 0)) ((xstep_at rfl).trans rfl) rfl
theorem ztxt_in {ks : List Nat} {w : XW} {S T : ZS} (hU : zU ks w S T) {r : Nat} (hr : r < 4) : XMet l D vwCl (tysX tA) tA ex (xSTX ++ [sc]) xSV xNW xNF xTs xm20 [.inr (.inr (1, 0)), .inl ((r : Int), (r : Int))] w (some (.inr (.inr (1, 25 + 2 * (6 + r))))) w := by
  obtain ⟨fs, hw, g1, g2⟩ := zf0 hU.1 hU.2.1
  refine zex (j := 20) rfl (Nat.le_of_ble_eq_true rfl) ?_
  refine yreach.at (S' := (1, [(0, .inr (.inr (1, 0))), (1, .inl ((r : Int), (r : Int)))], [.inl ((r : Int), (r : Int))], w, 0, 0)) (q := _) rfl rfl ?_
  refine yreach.at (S' := (4, [(0, .inr (.inr (1, 0))), (1, .inl ((r : Int), (r : Int)))], [], w, 0, 0)) (q := _) rfl (sx_if (o := false) (zcmp (show xcmp .lt _ _ = _ from xlt_of) (decide_eq_false (by omega)))) ?_
  refine yreach.at (S' := (5, [(0, .inr (.inr (1, 0))), (1, .inl ((r : Int), (r : Int)))], [.inl ((r : Int), (r : Int))], w, 0, 0)) (q := _) rfl rfl ?_
  refine yreach.at (S' := (6, [(0, .inr (.inr (1, 0))), (1, .inl ((r : Int), (r : Int)))], [.inl (4, 4), .inl ((r : Int), (r : Int))], w, 0, 0)) (q := _) rfl rfl ?_
  refine yreach.at (S' := (9, [(0, .inr (.inr (1, 0))), (1, .inl ((r : Int), (r : Int)))], [], w, 0, 0)) (q := _) rfl (sx_icmp (o := false) (zcmp xge_of (decide_eq_false (by omega)))) ?_
  refine yreach.at (S' := (10, [(0, .inr (.inr (1, 0))), (1, .inl ((r : Int), (r : Int)))], [.inr (.inr (1, 0))], w, 0, 0)) (q := _) rfl rfl ?_
  refine yreach.at (S' := (13, [(0, .inr (.inr (1, 0))), (1, .inl ((r : Int), (r : Int)))], [.inr (.inr (1, 2))], w, 0, 0)) (q := _) rfl (sx_get hw g2) ?_
  refine yreach.at (S' := (14, [(0, .inr (.inr (1, 0))), (1, .inl ((r : Int), (r : Int)))], [.inl ((r : Int), (r : Int)), .inr (.inr (1, 2))], w, 0, 0)) (q := _) rfl rfl ?_
  refine yreach.at (S' := (15, [(0, .inr (.inr (1, 0))), (1, .inl ((r : Int), (r : Int)))], [.inr (.inr (1, 25 + 2 * (6 + r)))], w, 0, 0)) (q := _) rfl (sx_aald hU.2.2.1.2.1 (zread (by exact zr2_at hr))) ?_
  refine yreach.at (S' := (19, [(0, .inr (.inr (1, 0))), (1, .inl ((r : Int), (r : Int)))], [.inr (.inr (1, 25 + 2 * (6 + r)))], w, 0, 0)) (q := _) rfl rfl ?_
  exact yreach.ret (q := (some (.inr (.inr (1, 25 + 2 * (6 + r)))), w, 0, 0)) ((xstep_at rfl).trans rfl) rfl
theorem ztxt_no {ks : List Nat} {w : XW} {S T : ZS} (hU : zU ks w S T) {a : Int} (ha : ¬ (0 ≤ a ∧ a < 4)) : XMet l D vwCl (tysX tA) tA ex (xSTX ++ [sc]) xSV xNW xNF xTs xm20 [.inr (.inr (1, 0)), .inl (a, a)] w (some (.inr (.inr (0, 0)))) w := by
  refine zex (j := 20) rfl (Nat.le_of_ble_eq_true rfl) ?_
  by_cases h : a < 0
  · refine yreach.at (S' := (1, [(0, .inr (.inr (1, 0))), (1, .inl (a, a))], [.inl (a, a)], w, 0, 0)) (q := _) rfl rfl ?_
    refine yreach.at (S' := (18, [(0, .inr (.inr (1, 0))), (1, .inl (a, a))], [], w, 0, 0)) (q := _) rfl (sx_if (o := true) (zcmp (show xcmp .lt _ _ = _ from xlt_of) (decide_eq_true (by omega)))) ?_
    refine yreach.at (S' := (19, [(0, .inr (.inr (1, 0))), (1, .inl (a, a))], [.inr (.inr (0, 0))], w, 0, 0)) (q := _) rfl rfl ?_
    exact yreach.ret (q := (some (.inr (.inr (0, 0))), w, 0, 0)) ((xstep_at rfl).trans rfl) rfl
  · refine yreach.at (S' := (1, [(0, .inr (.inr (1, 0))), (1, .inl (a, a))], [.inl (a, a)], w, 0, 0)) (q := _) rfl rfl ?_
    refine yreach.at (S' := (4, [(0, .inr (.inr (1, 0))), (1, .inl (a, a))], [], w, 0, 0)) (q := _) rfl (sx_if (o := false) (zcmp (show xcmp .lt _ _ = _ from xlt_of) (decide_eq_false (by omega)))) ?_
    refine yreach.at (S' := (5, [(0, .inr (.inr (1, 0))), (1, .inl (a, a))], [.inl (a, a)], w, 0, 0)) (q := _) rfl rfl ?_
    refine yreach.at (S' := (6, [(0, .inr (.inr (1, 0))), (1, .inl (a, a))], [.inl (4, 4), .inl (a, a)], w, 0, 0)) (q := _) rfl rfl ?_
    refine yreach.at (S' := (18, [(0, .inr (.inr (1, 0))), (1, .inl (a, a))], [], w, 0, 0)) (q := _) rfl (sx_icmp (o := true) (zcmp xge_of (decide_eq_true (by omega)))) ?_
    refine yreach.at (S' := (19, [(0, .inr (.inr (1, 0))), (1, .inl (a, a))], [.inr (.inr (0, 0))], w, 0, 0)) (q := _) rfl rfl ?_
    exact yreach.ret (q := (some (.inr (.inr (0, 0))), w, 0, 0)) ((xstep_at rfl).trans rfl) rfl
theorem zmis_y {w : XW} {q : Nat} {z : Int} {x : XV} (hq : w[q]? = some (.inl (4, [x, .inl (z, z)]))) (h : z < 0) : XMet l D vwCl (tysX tA) tA ex (xSTX ++ [sc]) xSV xNW xNF xTs xm13 [.inr (.inr (1, q))] w (some (.inl (1, 1))) w := by
  refine zex (j := 13) rfl (Nat.le_of_ble_eq_true rfl) ?_
  refine yreach.at (S' := (1, [(0, .inr (.inr (1, q)))], [.inr (.inr (1, q))], w, 0, 0)) (q := _) rfl rfl ?_
  refine yreach.at (S' := (4, [(0, .inr (.inr (1, q)))], [.inl (z, z)], w, 0, 0)) (q := _) rfl (sx_get hq rfl) ?_
  refine yreach.at (S' := (7, [(0, .inr (.inr (1, q)))], [], w, 0, 0)) (q := _) rfl (sx_if (o := false) (zcmp xge_of (decide_eq_false (by omega)))) ?_
  refine yreach.at (S' := (8, [(0, .inr (.inr (1, q)))], [.inl (1, 1)], w, 0, 0)) (q := _) rfl rfl ?_
  refine yreach.at (S' := (12, [(0, .inr (.inr (1, q)))], [.inl (1, 1)], w, 0, 0)) (q := _) rfl rfl ?_
  exact yreach.ret (q := (some (.inl (1, 1)), w, 0, 0)) ((xstep_at rfl).trans rfl) rfl
theorem zmis_n {w : XW} {q : Nat} {z : Int} {x : XV} (hq : w[q]? = some (.inl (4, [x, .inl (z, z)]))) (h : 0 ≤ z) : XMet l D vwCl (tysX tA) tA ex (xSTX ++ [sc]) xSV xNW xNF xTs xm13 [.inr (.inr (1, q))] w (some (.inl (0, 0))) w := by
  refine zex (j := 13) rfl (Nat.le_of_ble_eq_true rfl) ?_
  refine yreach.at (S' := (1, [(0, .inr (.inr (1, q)))], [.inr (.inr (1, q))], w, 0, 0)) (q := _) rfl rfl ?_
  refine yreach.at (S' := (4, [(0, .inr (.inr (1, q)))], [.inl (z, z)], w, 0, 0)) (q := _) rfl (sx_get hq rfl) ?_
  refine yreach.at (S' := (11, [(0, .inr (.inr (1, q)))], [], w, 0, 0)) (q := _) rfl (sx_if (o := true) (zcmp xge_of (decide_eq_true (by omega)))) ?_
  refine yreach.at (S' := (12, [(0, .inr (.inr (1, q)))], [.inl (0, 0)], w, 0, 0)) (q := _) rfl rfl ?_
  exact yreach.ret (q := (some (.inl (0, 0)), w, 0, 0)) ((xstep_at rfl).trans rfl) rfl
theorem zhol_y {w : XW} {q : Nat} {z : Int} {x : XV} (hq : w[q]? = some (.inl (4, [x, .inl (z, z)]))) {i n : Int} (h : 0 ≤ i ∧ 0 ≤ n ∧ n ≤ z ∧ i ≤ z - n) (hz : z ≤ 40) : XMet l D vwCl (tysX tA) tA ex (xSTX ++ [sc]) xSV xNW xNF xTs xm14 [.inr (.inr (1, q)), .inl (i, i), .inl (n, n)] w (some (.inl (1, 1))) w := by
  refine zex (j := 14) rfl (Nat.le_of_ble_eq_true rfl) ?_
  refine yreach.at (S' := (1, [(0, .inr (.inr (1, q))), (1, .inl (i, i)), (2, .inl (n, n))], [.inl (i, i)], w, 0, 0)) (q := _) rfl rfl ?_
  refine yreach.at (S' := (4, [(0, .inr (.inr (1, q))), (1, .inl (i, i)), (2, .inl (n, n))], [], w, 0, 0)) (q := _) rfl (sx_if (o := false) (zcmp (show xcmp .lt _ _ = _ from xlt_of) (decide_eq_false (by omega)))) ?_
  refine yreach.at (S' := (5, [(0, .inr (.inr (1, q))), (1, .inl (i, i)), (2, .inl (n, n))], [.inl (n, n)], w, 0, 0)) (q := _) rfl rfl ?_
  refine yreach.at (S' := (8, [(0, .inr (.inr (1, q))), (1, .inl (i, i)), (2, .inl (n, n))], [], w, 0, 0)) (q := _) rfl (sx_if (o := false) (zcmp (show xcmp .lt _ _ = _ from xlt_of) (decide_eq_false (by omega)))) ?_
  refine yreach.at (S' := (9, [(0, .inr (.inr (1, q))), (1, .inl (i, i)), (2, .inl (n, n))], [.inl (n, n)], w, 0, 0)) (q := _) rfl rfl ?_
  refine yreach.at (S' := (10, [(0, .inr (.inr (1, q))), (1, .inl (i, i)), (2, .inl (n, n))], [.inr (.inr (1, q)), .inl (n, n)], w, 0, 0)) (q := _) rfl rfl ?_
  refine yreach.at (S' := (13, [(0, .inr (.inr (1, q))), (1, .inl (i, i)), (2, .inl (n, n))], [.inl (z, z), .inl (n, n)], w, 0, 0)) (q := _) rfl (sx_get hq rfl) ?_
  refine yreach.at (S' := (16, [(0, .inr (.inr (1, q))), (1, .inl (i, i)), (2, .inl (n, n))], [], w, 0, 0)) (q := _) rfl (sx_icmp (o := false) (zcmp xgt_of (decide_eq_false (by omega)))) ?_
  refine yreach.at (S' := (17, [(0, .inr (.inr (1, q))), (1, .inl (i, i)), (2, .inl (n, n))], [.inl (i, i)], w, 0, 0)) (q := _) rfl rfl ?_
  refine yreach.at (S' := (18, [(0, .inr (.inr (1, q))), (1, .inl (i, i)), (2, .inl (n, n))], [.inr (.inr (1, q)), .inl (i, i)], w, 0, 0)) (q := _) rfl rfl ?_
  refine yreach.at (S' := (21, [(0, .inr (.inr (1, q))), (1, .inl (i, i)), (2, .inl (n, n))], [.inl (z, z), .inl (i, i)], w, 0, 0)) (q := _) rfl (sx_get hq rfl) ?_
  refine yreach.at (S' := (22, [(0, .inr (.inr (1, q))), (1, .inl (i, i)), (2, .inl (n, n))], [.inl (n, n), .inl (z, z), .inl (i, i)], w, 0, 0)) (q := _) rfl rfl ?_
  refine yreach.at (S' := (23, [(0, .inr (.inr (1, q))), (1, .inl (i, i)), (2, .inl (n, n))], [.inl (z - n, z - n), .inl (i, i)], w, 0, 0)) (q := _) rfl (sx_isub (by omega)) ?_
  refine yreach.at (S' := (26, [(0, .inr (.inr (1, q))), (1, .inl (i, i)), (2, .inl (n, n))], [], w, 0, 0)) (q := _) rfl (sx_icmp (o := false) (zcmp xgt_of (decide_eq_false (by omega)))) ?_
  refine yreach.at (S' := (27, [(0, .inr (.inr (1, q))), (1, .inl (i, i)), (2, .inl (n, n))], [.inl (1, 1)], w, 0, 0)) (q := _) rfl rfl ?_
  refine yreach.at (S' := (31, [(0, .inr (.inr (1, q))), (1, .inl (i, i)), (2, .inl (n, n))], [.inl (1, 1)], w, 0, 0)) (q := _) rfl rfl ?_
  exact yreach.ret (q := (some (.inl (1, 1)), w, 0, 0)) ((xstep_at rfl).trans rfl) rfl
theorem zhol_n {w : XW} {q : Nat} {z : Int} {x : XV} (hq : w[q]? = some (.inl (4, [x, .inl (z, z)]))) {i n : Int} (h : ¬ (0 ≤ i ∧ 0 ≤ n ∧ n ≤ z ∧ i ≤ z - n)) (hz : z ≤ 40) : XMet l D vwCl (tysX tA) tA ex (xSTX ++ [sc]) xSV xNW xNF xTs xm14 [.inr (.inr (1, q)), .inl (i, i), .inl (n, n)] w (some (.inl (0, 0))) w := by
  refine zex (j := 14) rfl (Nat.le_of_ble_eq_true rfl) ?_
  by_cases h1 : i < 0
  · refine yreach.at (S' := (1, [(0, .inr (.inr (1, q))), (1, .inl (i, i)), (2, .inl (n, n))], [.inl (i, i)], w, 0, 0)) (q := _) rfl rfl ?_
    refine yreach.at (S' := (30, [(0, .inr (.inr (1, q))), (1, .inl (i, i)), (2, .inl (n, n))], [], w, 0, 0)) (q := _) rfl (sx_if (o := true) (zcmp (show xcmp .lt _ _ = _ from xlt_of) (decide_eq_true (by omega)))) ?_
    refine yreach.at (S' := (31, [(0, .inr (.inr (1, q))), (1, .inl (i, i)), (2, .inl (n, n))], [.inl (0, 0)], w, 0, 0)) (q := _) rfl rfl ?_
    exact yreach.ret (q := (some (.inl (0, 0)), w, 0, 0)) ((xstep_at rfl).trans rfl) rfl
  · refine yreach.at (S' := (1, [(0, .inr (.inr (1, q))), (1, .inl (i, i)), (2, .inl (n, n))], [.inl (i, i)], w, 0, 0)) (q := _) rfl rfl ?_
    refine yreach.at (S' := (4, [(0, .inr (.inr (1, q))), (1, .inl (i, i)), (2, .inl (n, n))], [], w, 0, 0)) (q := _) rfl (sx_if (o := false) (zcmp (show xcmp .lt _ _ = _ from xlt_of) (decide_eq_false (by omega)))) ?_
    by_cases h2 : n < 0
    · refine yreach.at (S' := (5, [(0, .inr (.inr (1, q))), (1, .inl (i, i)), (2, .inl (n, n))], [.inl (n, n)], w, 0, 0)) (q := _) rfl rfl ?_
      refine yreach.at (S' := (30, [(0, .inr (.inr (1, q))), (1, .inl (i, i)), (2, .inl (n, n))], [], w, 0, 0)) (q := _) rfl (sx_if (o := true) (zcmp (show xcmp .lt _ _ = _ from xlt_of) (decide_eq_true (by omega)))) ?_
      refine yreach.at (S' := (31, [(0, .inr (.inr (1, q))), (1, .inl (i, i)), (2, .inl (n, n))], [.inl (0, 0)], w, 0, 0)) (q := _) rfl rfl ?_
      exact yreach.ret (q := (some (.inl (0, 0)), w, 0, 0)) ((xstep_at rfl).trans rfl) rfl
    · refine yreach.at (S' := (5, [(0, .inr (.inr (1, q))), (1, .inl (i, i)), (2, .inl (n, n))], [.inl (n, n)], w, 0, 0)) (q := _) rfl rfl ?_
      refine yreach.at (S' := (8, [(0, .inr (.inr (1, q))), (1, .inl (i, i)), (2, .inl (n, n))], [], w, 0, 0)) (q := _) rfl (sx_if (o := false) (zcmp (show xcmp .lt _ _ = _ from xlt_of) (decide_eq_false (by omega)))) ?_
      refine yreach.at (S' := (9, [(0, .inr (.inr (1, q))), (1, .inl (i, i)), (2, .inl (n, n))], [.inl (n, n)], w, 0, 0)) (q := _) rfl rfl ?_
      refine yreach.at (S' := (10, [(0, .inr (.inr (1, q))), (1, .inl (i, i)), (2, .inl (n, n))], [.inr (.inr (1, q)), .inl (n, n)], w, 0, 0)) (q := _) rfl rfl ?_
      refine yreach.at (S' := (13, [(0, .inr (.inr (1, q))), (1, .inl (i, i)), (2, .inl (n, n))], [.inl (z, z), .inl (n, n)], w, 0, 0)) (q := _) rfl (sx_get hq rfl) ?_
      by_cases h3 : z < n
      · refine yreach.at (S' := (30, [(0, .inr (.inr (1, q))), (1, .inl (i, i)), (2, .inl (n, n))], [], w, 0, 0)) (q := _) rfl (sx_icmp (o := true) (zcmp xgt_of (decide_eq_true (by omega)))) ?_
        refine yreach.at (S' := (31, [(0, .inr (.inr (1, q))), (1, .inl (i, i)), (2, .inl (n, n))], [.inl (0, 0)], w, 0, 0)) (q := _) rfl rfl ?_
        exact yreach.ret (q := (some (.inl (0, 0)), w, 0, 0)) ((xstep_at rfl).trans rfl) rfl
      · refine yreach.at (S' := (16, [(0, .inr (.inr (1, q))), (1, .inl (i, i)), (2, .inl (n, n))], [], w, 0, 0)) (q := _) rfl (sx_icmp (o := false) (zcmp xgt_of (decide_eq_false (by omega)))) ?_
        refine yreach.at (S' := (17, [(0, .inr (.inr (1, q))), (1, .inl (i, i)), (2, .inl (n, n))], [.inl (i, i)], w, 0, 0)) (q := _) rfl rfl ?_
        refine yreach.at (S' := (18, [(0, .inr (.inr (1, q))), (1, .inl (i, i)), (2, .inl (n, n))], [.inr (.inr (1, q)), .inl (i, i)], w, 0, 0)) (q := _) rfl rfl ?_
        refine yreach.at (S' := (21, [(0, .inr (.inr (1, q))), (1, .inl (i, i)), (2, .inl (n, n))], [.inl (z, z), .inl (i, i)], w, 0, 0)) (q := _) rfl (sx_get hq rfl) ?_
        refine yreach.at (S' := (22, [(0, .inr (.inr (1, q))), (1, .inl (i, i)), (2, .inl (n, n))], [.inl (n, n), .inl (z, z), .inl (i, i)], w, 0, 0)) (q := _) rfl rfl ?_
        refine yreach.at (S' := (23, [(0, .inr (.inr (1, q))), (1, .inl (i, i)), (2, .inl (n, n))], [.inl (z - n, z - n), .inl (i, i)], w, 0, 0)) (q := _) rfl (sx_isub (by omega)) ?_
        refine yreach.at (S' := (30, [(0, .inr (.inr (1, q))), (1, .inl (i, i)), (2, .inl (n, n))], [], w, 0, 0)) (q := _) rfl (sx_icmp (o := true) (zcmp xgt_of (decide_eq_true (by omega)))) ?_
        refine yreach.at (S' := (31, [(0, .inr (.inr (1, q))), (1, .inl (i, i)), (2, .inl (n, n))], [.inl (0, 0)], w, 0, 0)) (q := _) rfl rfl ?_
        exact yreach.ret (q := (some (.inl (0, 0)), w, 0, 0)) ((xstep_at rfl).trans rfl) rfl
theorem zanew_loop {w : XW} {q p n : Nat} {v : Int} {es : List XV} {Post : Option XV × XW × Nat × Nat → Prop} (hqp : q ≠ p) (hq : q < w.length) (hp : p < w.length) (hes : es.length = 40) (hn : n ≤ 40) (H : yreach (ySt sc xm11) (yJm l D tA ex sc xm11) (Post) (25, [(3, .inl ((n : Int), (n : Int))), (0, .inr (.inr (1, q))), (1, .inl ((n : Int), (n : Int))), (2, .inl (v, v))], [], (w.set q (.inl (4, [.inr (.inr (1, p)), .inl ((n : Int), (n : Int))]))).set p (.inr (0, zfl es 0 (fun _ => .inl (v, v)) n)), 0, 0)) : ∀ m i : Nat, i + m = n → yreach (ySt sc xm11) (yJm l D tA ex sc xm11) (Post) (7, [(3, .inl ((i : Int), (i : Int))), (0, .inr (.inr (1, q))), (1, .inl ((n : Int), (n : Int))), (2, .inl (v, v))], [], (w.set q (.inl (4, [.inr (.inr (1, p)), .inl ((n : Int), (n : Int))]))).set p (.inr (0, zfl es 0 (fun _ => .inl (v, v)) i)), 0, 0)
  | 0, i, e => by
    have e : i = n := e
    subst e
    refine yreach.at (S' := (8, [(3, .inl ((i : Int), (i : Int))), (0, .inr (.inr (1, q))), (1, .inl ((i : Int), (i : Int))), (2, .inl (v, v))], [.inl ((i : Int), (i : Int))], (w.set q (.inl (4, [.inr (.inr (1, p)), .inl ((i : Int), (i : Int))]))).set p (.inr (0, zfl es 0 (fun _ => .inl (v, v)) i)), 0, 0)) (q := _) rfl rfl ?_
    refine yreach.at (S' := (9, [(3, .inl ((i : Int), (i : Int))), (0, .inr (.inr (1, q))), (1, .inl ((i : Int), (i : Int))), (2, .inl (v, v))], [.inl ((i : Int), (i : Int)), .inl ((i : Int), (i : Int))], (w.set q (.inl (4, [.inr (.inr (1, p)), .inl ((i : Int), (i : Int))]))).set p (.inr (0, zfl es 0 (fun _ => .inl (v, v)) i)), 0, 0)) (q := _) rfl rfl ?_
    refine yreach.at (S' := (25, [(3, .inl ((i : Int), (i : Int))), (0, .inr (.inr (1, q))), (1, .inl ((i : Int), (i : Int))), (2, .inl (v, v))], [], (w.set q (.inl (4, [.inr (.inr (1, p)), .inl ((i : Int), (i : Int))]))).set p (.inr (0, zfl es 0 (fun _ => .inl (v, v)) i)), 0, 0)) (q := _) rfl (sx_icmp (o := true) (zcmp xge_of (decide_eq_true (by omega)))) ?_
    exact H
  | m + 1, i, e => by
    have ih := zanew_loop hqp hq hp hes hn H m (i + 1) (by omega)
    have e1 : zfl es 0 (fun _ => .inl (v, v)) (i + 1) = (zfl es 0 (fun _ => .inl (v, v)) i).set i (.inl (v, v)) := by
      show (zfl es 0 (fun _ => .inl (v, v)) i).set (0 + i) (.inl (v, v)) = _
      rw [Nat.zero_add]
    rw [e1] at ih
    have hl : p < ((w.set q (.inl (4, [.inr (.inr (1, p)), .inl ((n : Int), (n : Int))]))) : XW).length := by
      rw [List.length_set]
      exact hp
    have hwp : ((w.set q (.inl (4, [.inr (.inr (1, p)), .inl ((n : Int), (n : Int))]))).set p (.inr (0, zfl es 0 (fun _ => .inl (v, v)) i)))[p]? = some (.inr (0, zfl es 0 (fun _ => .inl (v, v)) i)) := List.getElem?_set_self hl
    have hwq : ((w.set q (.inl (4, [.inr (.inr (1, p)), .inl ((n : Int), (n : Int))]))).set p (.inr (0, zfl es 0 (fun _ => .inl (v, v)) i)))[q]? = some (.inl (4, [.inr (.inr (1, p)), .inl ((n : Int), (n : Int))])) := by
      rw [List.getElem?_set_ne (fun e => hqp e.symm)]
      exact List.getElem?_set_self hq
    refine yreach.at (S' := (8, [(3, .inl ((i : Int), (i : Int))), (0, .inr (.inr (1, q))), (1, .inl ((n : Int), (n : Int))), (2, .inl (v, v))], [.inl ((i : Int), (i : Int))], (w.set q (.inl (4, [.inr (.inr (1, p)), .inl ((n : Int), (n : Int))]))).set p (.inr (0, zfl es 0 (fun _ => .inl (v, v)) i)), 0, 0)) (q := _) rfl rfl ?_
    refine yreach.at (S' := (9, [(3, .inl ((i : Int), (i : Int))), (0, .inr (.inr (1, q))), (1, .inl ((n : Int), (n : Int))), (2, .inl (v, v))], [.inl ((n : Int), (n : Int)), .inl ((i : Int), (i : Int))], (w.set q (.inl (4, [.inr (.inr (1, p)), .inl ((n : Int), (n : Int))]))).set p (.inr (0, zfl es 0 (fun _ => .inl (v, v)) i)), 0, 0)) (q := _) rfl rfl ?_
    refine yreach.at (S' := (12, [(3, .inl ((i : Int), (i : Int))), (0, .inr (.inr (1, q))), (1, .inl ((n : Int), (n : Int))), (2, .inl (v, v))], [], (w.set q (.inl (4, [.inr (.inr (1, p)), .inl ((n : Int), (n : Int))]))).set p (.inr (0, zfl es 0 (fun _ => .inl (v, v)) i)), 0, 0)) (q := _) rfl (sx_icmp (o := false) (zcmp xge_of (decide_eq_false (by omega)))) ?_
    refine yreach.at (S' := (13, [(3, .inl ((i : Int), (i : Int))), (0, .inr (.inr (1, q))), (1, .inl ((n : Int), (n : Int))), (2, .inl (v, v))], [.inr (.inr (1, q))], (w.set q (.inl (4, [.inr (.inr (1, p)), .inl ((n : Int), (n : Int))]))).set p (.inr (0, zfl es 0 (fun _ => .inl (v, v)) i)), 0, 0)) (q := _) rfl rfl ?_
    refine yreach.at (S' := (16, [(3, .inl ((i : Int), (i : Int))), (0, .inr (.inr (1, q))), (1, .inl ((n : Int), (n : Int))), (2, .inl (v, v))], [.inr (.inr (1, p))], (w.set q (.inl (4, [.inr (.inr (1, p)), .inl ((n : Int), (n : Int))]))).set p (.inr (0, zfl es 0 (fun _ => .inl (v, v)) i)), 0, 0)) (q := _) rfl (sx_get hwq rfl) ?_
    refine yreach.at (S' := (17, [(3, .inl ((i : Int), (i : Int))), (0, .inr (.inr (1, q))), (1, .inl ((n : Int), (n : Int))), (2, .inl (v, v))], [.inl ((i : Int), (i : Int)), .inr (.inr (1, p))], (w.set q (.inl (4, [.inr (.inr (1, p)), .inl ((n : Int), (n : Int))]))).set p (.inr (0, zfl es 0 (fun _ => .inl (v, v)) i)), 0, 0)) (q := _) rfl rfl ?_
    refine yreach.at (S' := (18, [(3, .inl ((i : Int), (i : Int))), (0, .inr (.inr (1, q))), (1, .inl ((n : Int), (n : Int))), (2, .inl (v, v))], [.inl (v, v), .inl ((i : Int), (i : Int)), .inr (.inr (1, p))], (w.set q (.inl (4, [.inr (.inr (1, p)), .inl ((n : Int), (n : Int))]))).set p (.inr (0, zfl es 0 (fun _ => .inl (v, v)) i)), 0, 0)) (q := _) rfl rfl ?_
    refine yreach.at (S' := (19, [(3, .inl ((i : Int), (i : Int))), (0, .inr (.inr (1, q))), (1, .inl ((n : Int), (n : Int))), (2, .inl (v, v))], [], List.set (α := XC) ((w.set q (.inl (4, [.inr (.inr (1, p)), .inl ((n : Int), (n : Int))]))).set p (.inr (0, zfl es 0 (fun _ => .inl (v, v)) i))) p (.inr (0, (zfl es 0 (fun _ => .inl (v, v)) i).set i (.inl (v, v)))), 0, 0)) (q := _) rfl (by exact sx_iast hwp (zwrite (by rw [zfl_len, hes]; omega))) ?_
    refine yreach.at (S' := (22, [(3, .inl (((i : Int) + 1), ((i : Int) + 1))), (0, .inr (.inr (1, q))), (1, .inl ((n : Int), (n : Int))), (2, .inl (v, v))], [], List.set (α := XC) ((w.set q (.inl (4, [.inr (.inr (1, p)), .inl ((n : Int), (n : Int))]))).set p (.inr (0, zfl es 0 (fun _ => .inl (v, v)) i))) p (.inr (0, (zfl es 0 (fun _ => .inl (v, v)) i).set i (.inl (v, v)))), 0, 0)) (q := _) rfl (sx_iinc (z := 1) rfl (Nat.le_of_ble_eq_true rfl) (by omega)) ?_
    refine yreach.at (S' := (7, [(3, .inl (((i : Int) + 1), ((i : Int) + 1))), (0, .inr (.inr (1, q))), (1, .inl ((n : Int), (n : Int))), (2, .inl (v, v))], [], List.set (α := XC) ((w.set q (.inl (4, [.inr (.inr (1, p)), .inl ((n : Int), (n : Int))]))).set p (.inr (0, zfl es 0 (fun _ => .inl (v, v)) i))) p (.inr (0, (zfl es 0 (fun _ => .inl (v, v)) i).set i (.inl (v, v)))), 0, 0)) (q := _) rfl rfl ?_
    rw [List.set_set]
    exact ih
theorem zanew {w : XW} {q p n : Nat} {z v : Int} {es : List XV} (hqp : q ≠ p) (hq : w[q]? = some (.inl (4, [.inr (.inr (1, p)), .inl (z, z)]))) (hp : w[p]? = some (.inr (0, es))) (hes : es.length = 40) (hn : n ≤ 40) : XMet l D vwCl (tysX tA) tA ex (xSTX ++ [sc]) xSV xNW xNF xTs xm11 [.inr (.inr (1, q)), .inl ((n : Int), (n : Int)), .inl (v, v)] w none ((w.set q (.inl (4, [.inr (.inr (1, p)), .inl ((n : Int), (n : Int))]))).set p (.inr (0, zfl es 0 (fun _ => .inl (v, v)) n))) := by
  refine zex (j := 11) rfl (Nat.le_of_ble_eq_true rfl) ?_
  have hql := (List.getElem?_eq_some_iff.mp hq).1
  have hpl := (List.getElem?_eq_some_iff.mp hp).1
  refine yreach.at (S' := (1, [(0, .inr (.inr (1, q))), (1, .inl ((n : Int), (n : Int))), (2, .inl (v, v))], [.inr (.inr (1, q))], w, 0, 0)) (q := _) rfl rfl ?_
  refine yreach.at (S' := (2, [(0, .inr (.inr (1, q))), (1, .inl ((n : Int), (n : Int))), (2, .inl (v, v))], [.inl ((n : Int), (n : Int)), .inr (.inr (1, q))], w, 0, 0)) (q := _) rfl rfl ?_
  refine yreach.at (S' := (5, [(0, .inr (.inr (1, q))), (1, .inl ((n : Int), (n : Int))), (2, .inl (v, v))], [], (w.set q (.inl (4, [.inr (.inr (1, p)), .inl ((n : Int), (n : Int))]))), 0, 0)) (q := _) rfl (by exact sy_put (ty := tyX4 1) hq (Nat.le_of_ble_eq_true rfl) rfl) ?_
  refine yreach.at (S' := (6, [(0, .inr (.inr (1, q))), (1, .inl ((n : Int), (n : Int))), (2, .inl (v, v))], [.inl (0, 0)], (w.set q (.inl (4, [.inr (.inr (1, p)), .inl ((n : Int), (n : Int))]))), 0, 0)) (q := _) rfl rfl ?_
  refine yreach.at (S' := (7, [(3, .inl (0, 0)), (0, .inr (.inr (1, q))), (1, .inl ((n : Int), (n : Int))), (2, .inl (v, v))], [], (w.set q (.inl (4, [.inr (.inr (1, p)), .inl ((n : Int), (n : Int))]))), 0, 0)) (q := _) rfl rfl ?_
  have e0 : (w.set q (.inl (4, [.inr (.inr (1, p)), .inl ((n : Int), (n : Int))]))) = (w.set q (.inl (4, [.inr (.inr (1, p)), .inl ((n : Int), (n : Int))]))).set p (.inr (0, es)) := (zself (w := (w.set q (.inl (4, [.inr (.inr (1, p)), .inl ((n : Int), (n : Int))])))) (c := .inr (0, es)) (by rw [List.getElem?_set_ne hqp]; exact hp)).symm
  have hh := zanew_loop (l := l) (D := D) (tA := tA) (ex := ex) (sc := sc) (es := es) (v := v) (Post := fun r => r = (none, (w.set q (.inl (4, [.inr (.inr (1, p)), .inl ((n : Int), (n : Int))]))).set p (.inr (0, zfl es 0 (fun _ => .inl (v, v)) n)), 0, 0)) hqp hql hpl hes hn (by
    exact yreach.ret (q := (none, (w.set q (.inl (4, [.inr (.inr (1, p)), .inl ((n : Int), (n : Int))]))).set p (.inr (0, zfl es 0 (fun _ => .inl (v, v)) n)), 0, 0)) ((xstep_at rfl).trans rfl) rfl) n 0 (Nat.zero_add n)
  rw [show zfl es 0 (fun _ => .inl (v, v)) 0 = es from rfl, ← e0] at hh
  exact hh
/-! the outcome of row, text -/
def zAnA (B a n : Int) : Int := if a < 0 ∨ B ≤ a ∨ 40 < n then -1 else if n < 0 then -3 else n
def zAnS (B : Int) (base : Nat) (v : Int) (S : ZS) (a n : Int) : ZS := if 0 ≤ a ∧ a < B ∧ 0 ≤ n ∧ n ≤ 40 then zup S (base + a.toNat) (some (List.replicate n.toNat v)) else S
def zLyA (B : Int) (base : Nat) (S : ZS) (a i : Int) : Int := if a < 0 ∨ B ≤ a then -1 else match S (base + a.toNat) with
  | none => -3
  | some L => if 0 ≤ i ∧ i < L.length then 1 else -3
def zLyS (B : Int) (base : Nat) (S : ZS) (a i v : Int) : ZS := if a < 0 ∨ B ≤ a then S else match S (base + a.toNat) with
  | none => S
  | some L => if 0 ≤ i ∧ i < L.length then zup S (base + a.toNat) (some (L.set i.toNat v)) else S
def zPtA (S : ZS) (a i : Int) : Int := if a < 0 ∨ 4 ≤ a then -1 else match S (6 + a.toNat) with
  | none => -3
  | some L => if 0 ≤ i ∧ i < L.length then (xadd ((L[i.toNat]?).getD 0, (L[i.toNat]?).getD 0) (1000, 1000)).1 else -3
def zb8 (v : Int) : Int := (xe1 (fun x => x.toInt8.toInt32) (v, v)).1
theorem zb8_e (v : Int) : xe1 (fun x => x.toInt8.toInt32) (v, v) = (zb8 v, zb8 v) := by
  unfold zb8 xe1
  rw [if_pos rfl]
def zTrA (S : ZS) (a : Int) : Int := if a < 0 ∨ 6 ≤ a then -1 else match S a.toNat with
  | none => -3
  | some _ => 1
def zTrS (S : ZS) (a : Int) : ZS := if a < 0 ∨ 6 ≤ a then S else match S a.toNat with
  | none => S
  | some _ => zup S a.toNat none
set_option maxHeartbeats 4000000 in
theorem zc_row {ks : List Nat} {w : XW} {S T : ZS} (hU : zU ks w S T) {a n : Int} (hn : yrg n) : ∃ w', XMet l D vwCl (tysX tA) tA ex (xSTX ++ [sc]) xSV xNW xNF xTs xm8 [.inr (.inr (1, 0)), .inl (a, a), .inl (n, n)] w (some (.inl (zAnA 6 a n, zAnA 6 a n))) w' ∧ zU ks w' (zAnS 6 0 0 S a n) T := by
  obtain ⟨fs, hw, g1, g2⟩ := zf0 hU.1 hU.2.1
  by_cases ha : 0 ≤ a ∧ a < 6
  · obtain ⟨r, rfl⟩ : ∃ r : Nat, a = (r : Int) := ⟨a.toNat, by omega⟩
    have hr : r < 6 := by omega
    by_cases h40 : 40 < n
    · rw [show zAnA 6 (r : Int) n = -1 from if_pos (by omega), show zAnS 6 0 0 S (r : Int) n = S from if_neg (by omega)]
      refine ⟨w, zex (j := 8) rfl (Nat.le_of_ble_eq_true rfl) ?_, hU⟩
      refine yreach.at (S' := (1, [(0, .inr (.inr (1, 0))), (1, .inl ((r : Int), (r : Int))), (2, .inl (n, n))], [.inr (.inr (1, 0))], w, 0, 0)) (q := _) rfl rfl ?_
      refine yreach.at (S' := (2, [(0, .inr (.inr (1, 0))), (1, .inl ((r : Int), (r : Int))), (2, .inl (n, n))], [.inl ((r : Int), (r : Int)), .inr (.inr (1, 0))], w, 0, 0)) (q := _) rfl rfl ?_
      refine ycall_at (N := xm9) (ro := some (.inr (.inr (1, 25 + 2 * (0 + r))))) (w' := w) (recv := true) (i := .invokevirtual 78) (a := 9) (na := 2) (z := 0) rfl (fun _ => rfl) rfl (zrow_in hU hr) ⟨Nat.le_of_ble_eq_true rfl, Nat.le_of_ble_eq_true rfl, Nat.le_of_ble_eq_true rfl, Nat.le_of_ble_eq_true rfl, Nat.le_of_ble_eq_true rfl, Nat.le_of_ble_eq_true rfl, (xrecv_at (as := [.inl ((r : Int), (r : Int))]) hw)⟩ ?_
      show yreach (ySt sc xm8) (yJm l D tA ex sc xm8) (_) (5, [(0, .inr (.inr (1, 0))), (1, .inl ((r : Int), (r : Int))), (2, .inl (n, n))], [.inr (.inr (1, 25 + 2 * (0 + r)))], w, 0, 0)
      refine yreach.at (S' := (6, [(3, .inr (.inr (1, 25 + 2 * (0 + r)))), (0, .inr (.inr (1, 0))), (1, .inl ((r : Int), (r : Int))), (2, .inl (n, n))], [], w, 0, 0)) (q := _) rfl rfl ?_
      refine yreach.at (S' := (7, [(3, .inr (.inr (1, 25 + 2 * (0 + r)))), (0, .inr (.inr (1, 0))), (1, .inl ((r : Int), (r : Int))), (2, .inl (n, n))], [.inr (.inr (1, 25 + 2 * (0 + r)))], w, 0, 0)) (q := _) rfl rfl ?_
      refine yreach.at (S' := (10, [(3, .inr (.inr (1, 25 + 2 * (0 + r)))), (0, .inr (.inr (1, 0))), (1, .inl ((r : Int), (r : Int))), (2, .inl (n, n))], [], w, 0, 0)) (q := _) rfl rfl ?_
      refine yreach.at (S' := (11, [(3, .inr (.inr (1, 25 + 2 * (0 + r)))), (0, .inr (.inr (1, 0))), (1, .inl ((r : Int), (r : Int))), (2, .inl (n, n))], [.inl (n, n)], w, 0, 0)) (q := _) rfl rfl ?_
      refine yreach.at (S' := (13, [(3, .inr (.inr (1, 25 + 2 * (0 + r)))), (0, .inr (.inr (1, 0))), (1, .inl ((r : Int), (r : Int))), (2, .inl (n, n))], [.inl (40, 40), .inl (n, n)], w, 0, 0)) (q := _) rfl rfl ?_
      refine yreach.at (S' := (16, [(3, .inr (.inr (1, 25 + 2 * (0 + r)))), (0, .inr (.inr (1, 0))), (1, .inl ((r : Int), (r : Int))), (2, .inl (n, n))], [], w, 0, 0)) (q := _) rfl (sx_icmp (o := false) (zcmp zle_of (decide_eq_false (by omega)))) ?_
      refine yreach.at (S' := (17, [(3, .inr (.inr (1, 25 + 2 * (0 + r)))), (0, .inr (.inr (1, 0))), (1, .inl ((r : Int), (r : Int))), (2, .inl (n, n))], [.inl (-1, -1)], w, 0, 0)) (q := _) rfl rfl ?_
      exact yreach.ret (q := (some (.inl (-1, -1)), w, 0, 0)) ((xstep_at rfl).trans rfl) rfl
    by_cases hneg : n < 0
    · rw [show zAnA 6 (r : Int) n = -3 from (if_neg (by omega)).trans (if_pos hneg), show zAnS 6 0 0 S (r : Int) n = S from if_neg (by omega)]
      obtain ⟨w2, m2, hU2⟩ := zfound (l := l) (D := D) (tA := tA) (ex := ex) (sc := sc) hU (v := 5) (by decide)
      refine ⟨w2, zex (j := 8) rfl (Nat.le_of_ble_eq_true rfl) ?_, hU2⟩
      refine yreach.at (S' := (1, [(0, .inr (.inr (1, 0))), (1, .inl ((r : Int), (r : Int))), (2, .inl (n, n))], [.inr (.inr (1, 0))], w, 0, 0)) (q := _) rfl rfl ?_
      refine yreach.at (S' := (2, [(0, .inr (.inr (1, 0))), (1, .inl ((r : Int), (r : Int))), (2, .inl (n, n))], [.inl ((r : Int), (r : Int)), .inr (.inr (1, 0))], w, 0, 0)) (q := _) rfl rfl ?_
      refine ycall_at (N := xm9) (ro := some (.inr (.inr (1, 25 + 2 * (0 + r))))) (w' := w) (recv := true) (i := .invokevirtual 78) (a := 9) (na := 2) (z := 0) rfl (fun _ => rfl) rfl (zrow_in hU hr) ⟨Nat.le_of_ble_eq_true rfl, Nat.le_of_ble_eq_true rfl, Nat.le_of_ble_eq_true rfl, Nat.le_of_ble_eq_true rfl, Nat.le_of_ble_eq_true rfl, Nat.le_of_ble_eq_true rfl, (xrecv_at (as := [.inl ((r : Int), (r : Int))]) hw)⟩ ?_
      show yreach (ySt sc xm8) (yJm l D tA ex sc xm8) (_) (5, [(0, .inr (.inr (1, 0))), (1, .inl ((r : Int), (r : Int))), (2, .inl (n, n))], [.inr (.inr (1, 25 + 2 * (0 + r)))], w, 0, 0)
      refine yreach.at (S' := (6, [(3, .inr (.inr (1, 25 + 2 * (0 + r)))), (0, .inr (.inr (1, 0))), (1, .inl ((r : Int), (r : Int))), (2, .inl (n, n))], [], w, 0, 0)) (q := _) rfl rfl ?_
      refine yreach.at (S' := (7, [(3, .inr (.inr (1, 25 + 2 * (0 + r)))), (0, .inr (.inr (1, 0))), (1, .inl ((r : Int), (r : Int))), (2, .inl (n, n))], [.inr (.inr (1, 25 + 2 * (0 + r)))], w, 0, 0)) (q := _) rfl rfl ?_
      refine yreach.at (S' := (10, [(3, .inr (.inr (1, 25 + 2 * (0 + r)))), (0, .inr (.inr (1, 0))), (1, .inl ((r : Int), (r : Int))), (2, .inl (n, n))], [], w, 0, 0)) (q := _) rfl rfl ?_
      refine yreach.at (S' := (11, [(3, .inr (.inr (1, 25 + 2 * (0 + r)))), (0, .inr (.inr (1, 0))), (1, .inl ((r : Int), (r : Int))), (2, .inl (n, n))], [.inl (n, n)], w, 0, 0)) (q := _) rfl rfl ?_
      refine yreach.at (S' := (13, [(3, .inr (.inr (1, 25 + 2 * (0 + r)))), (0, .inr (.inr (1, 0))), (1, .inl ((r : Int), (r : Int))), (2, .inl (n, n))], [.inl (40, 40), .inl (n, n)], w, 0, 0)) (q := _) rfl rfl ?_
      refine yreach.at (S' := (18, [(3, .inr (.inr (1, 25 + 2 * (0 + r)))), (0, .inr (.inr (1, 0))), (1, .inl ((r : Int), (r : Int))), (2, .inl (n, n))], [], w, 0, 0)) (q := _) rfl (sx_icmp (o := true) (zcmp zle_of (decide_eq_true (by omega)))) ?_
      refine yreach.at (S' := (19, [(3, .inr (.inr (1, 25 + 2 * (0 + r)))), (0, .inr (.inr (1, 0))), (1, .inl ((r : Int), (r : Int))), (2, .inl (n, n))], [.inl (n, n)], w, 0, 0)) (q := _) rfl rfl ?_
      refine yreach.at (S' := (22, [(3, .inr (.inr (1, 25 + 2 * (0 + r)))), (0, .inr (.inr (1, 0))), (1, .inl ((r : Int), (r : Int))), (2, .inl (n, n))], [], w, 0, 0)) (q := _) rfl (sx_if (o := false) (zcmp xge_of (decide_eq_false (by omega)))) ?_
      refine yreach.at (S' := (23, [(3, .inr (.inr (1, 25 + 2 * (0 + r)))), (0, .inr (.inr (1, 0))), (1, .inl ((r : Int), (r : Int))), (2, .inl (n, n))], [.inr (.inr (1, 0))], w, 0, 0)) (q := _) rfl rfl ?_
      refine yreach.at (S' := (24, [(3, .inr (.inr (1, 25 + 2 * (0 + r)))), (0, .inr (.inr (1, 0))), (1, .inl ((r : Int), (r : Int))), (2, .inl (n, n))], [.inl (5, 5), .inr (.inr (1, 0))], w, 0, 0)) (q := _) rfl rfl ?_
      refine ycall_at (N := xm10) (ro := some (.inl (-3, -3))) (w' := w2) (recv := true) (i := .invokevirtual 82) (a := 10) (na := 2) (z := 0) rfl (fun _ => rfl) rfl m2 ⟨Nat.le_of_ble_eq_true rfl, Nat.le_of_ble_eq_true rfl, Nat.le_of_ble_eq_true rfl, Nat.le_of_ble_eq_true rfl, Nat.le_of_ble_eq_true rfl, Nat.le_of_ble_eq_true rfl, (xrecv_at (as := [.inl (5, 5)]) hw)⟩ ?_
      show yreach (ySt sc xm8) (yJm l D tA ex sc xm8) (_) (27, [(3, .inr (.inr (1, 25 + 2 * (0 + r)))), (0, .inr (.inr (1, 0))), (1, .inl ((r : Int), (r : Int))), (2, .inl (n, n))], [.inl (-3, -3)], w2, 0, 0)
      exact yreach.ret (q := (some (.inl (-3, -3)), w2, 0, 0)) ((xstep_at rfl).trans rfl) rfl
    obtain ⟨n, rfl⟩ : ∃ u : Nat, n = (u : Int) := ⟨n.toNat, by omega⟩
    have hnn : n ≤ 40 := by omega
    have hs : 0 + r < 10 := by omega
    obtain ⟨z, es, c1, c2, c3, c4⟩ := hU.2.2.1.2.2 (0 + r) hs
    rw [show zAnA 6 (r : Int) (n : Int) = (n : Int) from (if_neg (by omega)).trans (if_neg (by omega)), show zAnS 6 0 0 S (r : Int) (n : Int) = zup S (0 + r) (some (List.replicate n 0)) from if_pos (by omega)]
    have hne : (25 + 2 * (0 + r)) ≠ (26 + 2 * (0 + r)) := by omega
    have c1l := (List.getElem?_eq_some_iff.mp c1).1
    have c2l := (List.getElem?_eq_some_iff.mp c2).1
    have w1p : (w.set (25 + 2 * (0 + r)) (.inl (4, [.inr (.inr (1, 26 + 2 * (0 + r))), .inl ((n : Int), (n : Int))])))[(26 + 2 * (0 + r))]? = some (.inr (0, es)) := by
      rw [List.getElem?_set_ne hne]
      exact c2
    have hH1 : yheap yKD ks (w.set (25 + 2 * (0 + r)) (.inl (4, [.inr (.inr (1, 26 + 2 * (0 + r))), .inl ((n : Int), (n : Int))]))) := yheap_setf hU.1 (zks_o hU.2.1 hs) (show yKD 3 = some yK_3 from rfl) c1 (f := 1) rfl ⟨_, List.mem_cons_self, (n : Int), rfl, by omega, by omega, by omega, by omega⟩ rfl
    have hH2 : ∀ m : Nat, m ≤ 40 → yheap yKD ks ((w.set (25 + 2 * (0 + r)) (.inl (4, [.inr (.inr (1, 26 + 2 * (0 + r))), .inl ((n : Int), (n : Int))]))).set (26 + 2 * (0 + r)) (.inr (0, zfl es 0 (fun _ => .inl (0, 0)) m))) := fun m => by
      induction m with
      | zero =>
        intro _
        rw [show zfl es 0 (fun _ => .inl (0, 0)) 0 = es from rfl, zself w1p]
        exact hH1
      | succ m ih =>
        intro hm
        have h := yheap_seta (ih (by omega)) (zks_a hU.2.1 hs) (show yKD 4 = some yK_4 from rfl) (List.getElem?_set_self (by rw [List.length_set]; exact c2l)) (j := 0 + m) (v := .inl (0, 0)) ⟨_, List.mem_cons_self, 0, rfl, by decide, by decide, by decide, by decide⟩ rfl
        rw [List.set_set] at h
        exact h
    refine ⟨(w.set (25 + 2 * (0 + r)) (.inl (4, [.inr (.inr (1, 26 + 2 * (0 + r))), .inl ((n : Int), (n : Int))]))).set (26 + 2 * (0 + r)) (.inr (0, zfl es 0 (fun _ => .inl (0, 0)) n)), zex (j := 8) rfl (Nat.le_of_ble_eq_true rfl) ?_, hH2 n hnn, hU.2.1, zCA_up hU.2.2.1 hs (fun i h1 h2 => by rw [List.getElem?_set_ne (fun e => h2 e.symm), List.getElem?_set_ne (fun e => h1 e.symm)]) ⟨(n : Int), _, by rw [List.getElem?_set_ne (fun e => hne e.symm)]; exact List.getElem?_set_self c1l, List.getElem?_set_self (by rw [List.length_set]; exact c2l), by rw [zfl_len]; exact c3, zrep_anew (Nat.le_refl n) hnn (by omega)⟩, zMA_eq hU.2.2.2 (fun i h => by rw [List.getElem?_set_ne (by omega), List.getElem?_set_ne (by omega)])⟩
    refine yreach.at (S' := (1, [(0, .inr (.inr (1, 0))), (1, .inl ((r : Int), (r : Int))), (2, .inl ((n : Int), (n : Int)))], [.inr (.inr (1, 0))], w, 0, 0)) (q := _) rfl rfl ?_
    refine yreach.at (S' := (2, [(0, .inr (.inr (1, 0))), (1, .inl ((r : Int), (r : Int))), (2, .inl ((n : Int), (n : Int)))], [.inl ((r : Int), (r : Int)), .inr (.inr (1, 0))], w, 0, 0)) (q := _) rfl rfl ?_
    refine ycall_at (N := xm9) (ro := some (.inr (.inr (1, 25 + 2 * (0 + r))))) (w' := w) (recv := true) (i := .invokevirtual 78) (a := 9) (na := 2) (z := 0) rfl (fun _ => rfl) rfl (zrow_in hU hr) ⟨Nat.le_of_ble_eq_true rfl, Nat.le_of_ble_eq_true rfl, Nat.le_of_ble_eq_true rfl, Nat.le_of_ble_eq_true rfl, Nat.le_of_ble_eq_true rfl, Nat.le_of_ble_eq_true rfl, (xrecv_at (as := [.inl ((r : Int), (r : Int))]) hw)⟩ ?_
    show yreach (ySt sc xm8) (yJm l D tA ex sc xm8) (_) (5, [(0, .inr (.inr (1, 0))), (1, .inl ((r : Int), (r : Int))), (2, .inl ((n : Int), (n : Int)))], [.inr (.inr (1, 25 + 2 * (0 + r)))], w, 0, 0)
    refine yreach.at (S' := (6, [(3, .inr (.inr (1, 25 + 2 * (0 + r)))), (0, .inr (.inr (1, 0))), (1, .inl ((r : Int), (r : Int))), (2, .inl ((n : Int), (n : Int)))], [], w, 0, 0)) (q := _) rfl rfl ?_
    refine yreach.at (S' := (7, [(3, .inr (.inr (1, 25 + 2 * (0 + r)))), (0, .inr (.inr (1, 0))), (1, .inl ((r : Int), (r : Int))), (2, .inl ((n : Int), (n : Int)))], [.inr (.inr (1, 25 + 2 * (0 + r)))], w, 0, 0)) (q := _) rfl rfl ?_
    refine yreach.at (S' := (10, [(3, .inr (.inr (1, 25 + 2 * (0 + r)))), (0, .inr (.inr (1, 0))), (1, .inl ((r : Int), (r : Int))), (2, .inl ((n : Int), (n : Int)))], [], w, 0, 0)) (q := _) rfl rfl ?_
    refine yreach.at (S' := (11, [(3, .inr (.inr (1, 25 + 2 * (0 + r)))), (0, .inr (.inr (1, 0))), (1, .inl ((r : Int), (r : Int))), (2, .inl ((n : Int), (n : Int)))], [.inl ((n : Int), (n : Int))], w, 0, 0)) (q := _) rfl rfl ?_
    refine yreach.at (S' := (13, [(3, .inr (.inr (1, 25 + 2 * (0 + r)))), (0, .inr (.inr (1, 0))), (1, .inl ((r : Int), (r : Int))), (2, .inl ((n : Int), (n : Int)))], [.inl (40, 40), .inl ((n : Int), (n : Int))], w, 0, 0)) (q := _) rfl rfl ?_
    refine yreach.at (S' := (18, [(3, .inr (.inr (1, 25 + 2 * (0 + r)))), (0, .inr (.inr (1, 0))), (1, .inl ((r : Int), (r : Int))), (2, .inl ((n : Int), (n : Int)))], [], w, 0, 0)) (q := _) rfl (sx_icmp (o := true) (zcmp zle_of (decide_eq_true (by omega)))) ?_
    refine yreach.at (S' := (19, [(3, .inr (.inr (1, 25 + 2 * (0 + r)))), (0, .inr (.inr (1, 0))), (1, .inl ((r : Int), (r : Int))), (2, .inl ((n : Int), (n : Int)))], [.inl ((n : Int), (n : Int))], w, 0, 0)) (q := _) rfl rfl ?_
    refine yreach.at (S' := (28, [(3, .inr (.inr (1, 25 + 2 * (0 + r)))), (0, .inr (.inr (1, 0))), (1, .inl ((r : Int), (r : Int))), (2, .inl ((n : Int), (n : Int)))], [], w, 0, 0)) (q := _) rfl (sx_if (o := true) (zcmp xge_of (decide_eq_true (by omega)))) ?_
    refine yreach.at (S' := (29, [(3, .inr (.inr (1, 25 + 2 * (0 + r)))), (0, .inr (.inr (1, 0))), (1, .inl ((r : Int), (r : Int))), (2, .inl ((n : Int), (n : Int)))], [.inr (.inr (1, 25 + 2 * (0 + r)))], w, 0, 0)) (q := _) rfl rfl ?_
    refine yreach.at (S' := (30, [(3, .inr (.inr (1, 25 + 2 * (0 + r)))), (0, .inr (.inr (1, 0))), (1, .inl ((r : Int), (r : Int))), (2, .inl ((n : Int), (n : Int)))], [.inl ((n : Int), (n : Int)), .inr (.inr (1, 25 + 2 * (0 + r)))], w, 0, 0)) (q := _) rfl rfl ?_
    refine yreach.at (S' := (31, [(3, .inr (.inr (1, 25 + 2 * (0 + r)))), (0, .inr (.inr (1, 0))), (1, .inl ((r : Int), (r : Int))), (2, .inl ((n : Int), (n : Int)))], [.inl (0, 0), .inl ((n : Int), (n : Int)), .inr (.inr (1, 25 + 2 * (0 + r)))], w, 0, 0)) (q := _) rfl rfl ?_
    refine ycall_at (N := xm11) (ro := none) (w' := (w.set (25 + 2 * (0 + r)) (.inl (4, [.inr (.inr (1, 26 + 2 * (0 + r))), .inl ((n : Int), (n : Int))]))).set (26 + 2 * (0 + r)) (.inr (0, zfl es 0 (fun _ => .inl (0, 0)) n))) (recv := true) (i := .invokevirtual 86) (a := 11) (na := 3) (z := 0) rfl (fun _ => rfl) rfl (zanew hne c1 c2 c3 hnn) ⟨Nat.le_of_ble_eq_true rfl, Nat.le_of_ble_eq_true rfl, Nat.le_of_ble_eq_true rfl, Nat.le_of_ble_eq_true rfl, Nat.le_of_ble_eq_true rfl, Nat.le_of_ble_eq_true rfl, (xrecv_at (as := [.inl ((n : Int), (n : Int)), .inl (0, 0)]) c1)⟩ ?_
    show yreach (ySt sc xm8) (yJm l D tA ex sc xm8) (_) (34, [(3, .inr (.inr (1, 25 + 2 * (0 + r)))), (0, .inr (.inr (1, 0))), (1, .inl ((r : Int), (r : Int))), (2, .inl ((n : Int), (n : Int)))], [], (w.set (25 + 2 * (0 + r)) (.inl (4, [.inr (.inr (1, 26 + 2 * (0 + r))), .inl ((n : Int), (n : Int))]))).set (26 + 2 * (0 + r)) (.inr (0, zfl es 0 (fun _ => .inl (0, 0)) n)), 0, 0)
    refine yreach.at (S' := (35, [(3, .inr (.inr (1, 25 + 2 * (0 + r)))), (0, .inr (.inr (1, 0))), (1, .inl ((r : Int), (r : Int))), (2, .inl ((n : Int), (n : Int)))], [.inl ((n : Int), (n : Int))], (w.set (25 + 2 * (0 + r)) (.inl (4, [.inr (.inr (1, 26 + 2 * (0 + r))), .inl ((n : Int), (n : Int))]))).set (26 + 2 * (0 + r)) (.inr (0, zfl es 0 (fun _ => .inl (0, 0)) n)), 0, 0)) (q := _) rfl rfl ?_
    exact yreach.ret (q := (some (.inl ((n : Int), (n : Int))), (w.set (25 + 2 * (0 + r)) (.inl (4, [.inr (.inr (1, 26 + 2 * (0 + r))), .inl ((n : Int), (n : Int))]))).set (26 + 2 * (0 + r)) (.inr (0, zfl es 0 (fun _ => .inl (0, 0)) n)), 0, 0)) ((xstep_at rfl).trans rfl) rfl
  · rw [show zAnA 6 a n = -1 from if_pos (by omega), show zAnS 6 0 0 S a n = S from if_neg (by omega)]
    refine ⟨w, zex (j := 8) rfl (Nat.le_of_ble_eq_true rfl) ?_, hU⟩
    refine yreach.at (S' := (1, [(0, .inr (.inr (1, 0))), (1, .inl (a, a)), (2, .inl (n, n))], [.inr (.inr (1, 0))], w, 0, 0)) (q := _) rfl rfl ?_
    refine yreach.at (S' := (2, [(0, .inr (.inr (1, 0))), (1, .inl (a, a)), (2, .inl (n, n))], [.inl (a, a), .inr (.inr (1, 0))], w, 0, 0)) (q := _) rfl rfl ?_
    refine ycall_at (N := xm9) (ro := some (.inr (.inr (0, 0)))) (w' := w) (recv := true) (i := .invokevirtual 78) (a := 9) (na := 2) (z := 0) rfl (fun _ => rfl) rfl (zrow_no hU ha) ⟨Nat.le_of_ble_eq_true rfl, Nat.le_of_ble_eq_true rfl, Nat.le_of_ble_eq_true rfl, Nat.le_of_ble_eq_true rfl, Nat.le_of_ble_eq_true rfl, Nat.le_of_ble_eq_true rfl, (xrecv_at (as := [.inl (a, a)]) hw)⟩ ?_
    show yreach (ySt sc xm8) (yJm l D tA ex sc xm8) (_) (5, [(0, .inr (.inr (1, 0))), (1, .inl (a, a)), (2, .inl (n, n))], [.inr (.inr (0, 0))], w, 0, 0)
    refine yreach.at (S' := (6, [(3, .inr (.inr (0, 0))), (0, .inr (.inr (1, 0))), (1, .inl (a, a)), (2, .inl (n, n))], [], w, 0, 0)) (q := _) rfl rfl ?_
    refine yreach.at (S' := (7, [(3, .inr (.inr (0, 0))), (0, .inr (.inr (1, 0))), (1, .inl (a, a)), (2, .inl (n, n))], [.inr (.inr (0, 0))], w, 0, 0)) (q := _) rfl rfl ?_
    refine yreach.at (S' := (16, [(3, .inr (.inr (0, 0))), (0, .inr (.inr (1, 0))), (1, .inl (a, a)), (2, .inl (n, n))], [], w, 0, 0)) (q := _) rfl rfl ?_
    refine yreach.at (S' := (17, [(3, .inr (.inr (0, 0))), (0, .inr (.inr (1, 0))), (1, .inl (a, a)), (2, .inl (n, n))], [.inl (-1, -1)], w, 0, 0)) (q := _) rfl rfl ?_
    exact yreach.ret (q := (some (.inl (-1, -1)), w, 0, 0)) ((xstep_at rfl).trans rfl) rfl
set_option maxHeartbeats 4000000 in
theorem zc_text {ks : List Nat} {w : XW} {S T : ZS} (hU : zU ks w S T) {a n : Int} (hn : yrg n) : ∃ w', XMet l D vwCl (tysX tA) tA ex (xSTX ++ [sc]) xSV xNW xNF xTs xm19 [.inr (.inr (1, 0)), .inl (a, a), .inl (n, n)] w (some (.inl (zAnA 4 a n, zAnA 4 a n))) w' ∧ zU ks w' (zAnS 4 6 32 S a n) T := by
  obtain ⟨fs, hw, g1, g2⟩ := zf0 hU.1 hU.2.1
  by_cases ha : 0 ≤ a ∧ a < 4
  · obtain ⟨r, rfl⟩ : ∃ r : Nat, a = (r : Int) := ⟨a.toNat, by omega⟩
    have hr : r < 4 := by omega
    by_cases h40 : 40 < n
    · rw [show zAnA 4 (r : Int) n = -1 from if_pos (by omega), show zAnS 4 6 32 S (r : Int) n = S from if_neg (by omega)]
      refine ⟨w, zex (j := 19) rfl (Nat.le_of_ble_eq_true rfl) ?_, hU⟩
      refine yreach.at (S' := (1, [(0, .inr (.inr (1, 0))), (1, .inl ((r : Int), (r : Int))), (2, .inl (n, n))], [.inr (.inr (1, 0))], w, 0, 0)) (q := _) rfl rfl ?_
      refine yreach.at (S' := (2, [(0, .inr (.inr (1, 0))), (1, .inl ((r : Int), (r : Int))), (2, .inl (n, n))], [.inl ((r : Int), (r : Int)), .inr (.inr (1, 0))], w, 0, 0)) (q := _) rfl rfl ?_
      refine ycall_at (N := xm20) (ro := some (.inr (.inr (1, 25 + 2 * (6 + r))))) (w' := w) (recv := true) (i := .invokevirtual 113) (a := 20) (na := 2) (z := 0) rfl (fun _ => rfl) rfl (ztxt_in hU hr) ⟨Nat.le_of_ble_eq_true rfl, Nat.le_of_ble_eq_true rfl, Nat.le_of_ble_eq_true rfl, Nat.le_of_ble_eq_true rfl, Nat.le_of_ble_eq_true rfl, Nat.le_of_ble_eq_true rfl, (xrecv_at (as := [.inl ((r : Int), (r : Int))]) hw)⟩ ?_
      show yreach (ySt sc xm19) (yJm l D tA ex sc xm19) (_) (5, [(0, .inr (.inr (1, 0))), (1, .inl ((r : Int), (r : Int))), (2, .inl (n, n))], [.inr (.inr (1, 25 + 2 * (6 + r)))], w, 0, 0)
      refine yreach.at (S' := (6, [(3, .inr (.inr (1, 25 + 2 * (6 + r)))), (0, .inr (.inr (1, 0))), (1, .inl ((r : Int), (r : Int))), (2, .inl (n, n))], [], w, 0, 0)) (q := _) rfl rfl ?_
      refine yreach.at (S' := (7, [(3, .inr (.inr (1, 25 + 2 * (6 + r)))), (0, .inr (.inr (1, 0))), (1, .inl ((r : Int), (r : Int))), (2, .inl (n, n))], [.inr (.inr (1, 25 + 2 * (6 + r)))], w, 0, 0)) (q := _) rfl rfl ?_
      refine yreach.at (S' := (10, [(3, .inr (.inr (1, 25 + 2 * (6 + r)))), (0, .inr (.inr (1, 0))), (1, .inl ((r : Int), (r : Int))), (2, .inl (n, n))], [], w, 0, 0)) (q := _) rfl rfl ?_
      refine yreach.at (S' := (11, [(3, .inr (.inr (1, 25 + 2 * (6 + r)))), (0, .inr (.inr (1, 0))), (1, .inl ((r : Int), (r : Int))), (2, .inl (n, n))], [.inl (n, n)], w, 0, 0)) (q := _) rfl rfl ?_
      refine yreach.at (S' := (13, [(3, .inr (.inr (1, 25 + 2 * (6 + r)))), (0, .inr (.inr (1, 0))), (1, .inl ((r : Int), (r : Int))), (2, .inl (n, n))], [.inl (40, 40), .inl (n, n)], w, 0, 0)) (q := _) rfl rfl ?_
      refine yreach.at (S' := (16, [(3, .inr (.inr (1, 25 + 2 * (6 + r)))), (0, .inr (.inr (1, 0))), (1, .inl ((r : Int), (r : Int))), (2, .inl (n, n))], [], w, 0, 0)) (q := _) rfl (sx_icmp (o := false) (zcmp zle_of (decide_eq_false (by omega)))) ?_
      refine yreach.at (S' := (17, [(3, .inr (.inr (1, 25 + 2 * (6 + r)))), (0, .inr (.inr (1, 0))), (1, .inl ((r : Int), (r : Int))), (2, .inl (n, n))], [.inl (-1, -1)], w, 0, 0)) (q := _) rfl rfl ?_
      exact yreach.ret (q := (some (.inl (-1, -1)), w, 0, 0)) ((xstep_at rfl).trans rfl) rfl
    by_cases hneg : n < 0
    · rw [show zAnA 4 (r : Int) n = -3 from (if_neg (by omega)).trans (if_pos hneg), show zAnS 4 6 32 S (r : Int) n = S from if_neg (by omega)]
      obtain ⟨w2, m2, hU2⟩ := zfound (l := l) (D := D) (tA := tA) (ex := ex) (sc := sc) hU (v := 5) (by decide)
      refine ⟨w2, zex (j := 19) rfl (Nat.le_of_ble_eq_true rfl) ?_, hU2⟩
      refine yreach.at (S' := (1, [(0, .inr (.inr (1, 0))), (1, .inl ((r : Int), (r : Int))), (2, .inl (n, n))], [.inr (.inr (1, 0))], w, 0, 0)) (q := _) rfl rfl ?_
      refine yreach.at (S' := (2, [(0, .inr (.inr (1, 0))), (1, .inl ((r : Int), (r : Int))), (2, .inl (n, n))], [.inl ((r : Int), (r : Int)), .inr (.inr (1, 0))], w, 0, 0)) (q := _) rfl rfl ?_
      refine ycall_at (N := xm20) (ro := some (.inr (.inr (1, 25 + 2 * (6 + r))))) (w' := w) (recv := true) (i := .invokevirtual 113) (a := 20) (na := 2) (z := 0) rfl (fun _ => rfl) rfl (ztxt_in hU hr) ⟨Nat.le_of_ble_eq_true rfl, Nat.le_of_ble_eq_true rfl, Nat.le_of_ble_eq_true rfl, Nat.le_of_ble_eq_true rfl, Nat.le_of_ble_eq_true rfl, Nat.le_of_ble_eq_true rfl, (xrecv_at (as := [.inl ((r : Int), (r : Int))]) hw)⟩ ?_
      show yreach (ySt sc xm19) (yJm l D tA ex sc xm19) (_) (5, [(0, .inr (.inr (1, 0))), (1, .inl ((r : Int), (r : Int))), (2, .inl (n, n))], [.inr (.inr (1, 25 + 2 * (6 + r)))], w, 0, 0)
      refine yreach.at (S' := (6, [(3, .inr (.inr (1, 25 + 2 * (6 + r)))), (0, .inr (.inr (1, 0))), (1, .inl ((r : Int), (r : Int))), (2, .inl (n, n))], [], w, 0, 0)) (q := _) rfl rfl ?_
      refine yreach.at (S' := (7, [(3, .inr (.inr (1, 25 + 2 * (6 + r)))), (0, .inr (.inr (1, 0))), (1, .inl ((r : Int), (r : Int))), (2, .inl (n, n))], [.inr (.inr (1, 25 + 2 * (6 + r)))], w, 0, 0)) (q := _) rfl rfl ?_
      refine yreach.at (S' := (10, [(3, .inr (.inr (1, 25 + 2 * (6 + r)))), (0, .inr (.inr (1, 0))), (1, .inl ((r : Int), (r : Int))), (2, .inl (n, n))], [], w, 0, 0)) (q := _) rfl rfl ?_
      refine yreach.at (S' := (11, [(3, .inr (.inr (1, 25 + 2 * (6 + r)))), (0, .inr (.inr (1, 0))), (1, .inl ((r : Int), (r : Int))), (2, .inl (n, n))], [.inl (n, n)], w, 0, 0)) (q := _) rfl rfl ?_
      refine yreach.at (S' := (13, [(3, .inr (.inr (1, 25 + 2 * (6 + r)))), (0, .inr (.inr (1, 0))), (1, .inl ((r : Int), (r : Int))), (2, .inl (n, n))], [.inl (40, 40), .inl (n, n)], w, 0, 0)) (q := _) rfl rfl ?_
      refine yreach.at (S' := (18, [(3, .inr (.inr (1, 25 + 2 * (6 + r)))), (0, .inr (.inr (1, 0))), (1, .inl ((r : Int), (r : Int))), (2, .inl (n, n))], [], w, 0, 0)) (q := _) rfl (sx_icmp (o := true) (zcmp zle_of (decide_eq_true (by omega)))) ?_
      refine yreach.at (S' := (19, [(3, .inr (.inr (1, 25 + 2 * (6 + r)))), (0, .inr (.inr (1, 0))), (1, .inl ((r : Int), (r : Int))), (2, .inl (n, n))], [.inl (n, n)], w, 0, 0)) (q := _) rfl rfl ?_
      refine yreach.at (S' := (22, [(3, .inr (.inr (1, 25 + 2 * (6 + r)))), (0, .inr (.inr (1, 0))), (1, .inl ((r : Int), (r : Int))), (2, .inl (n, n))], [], w, 0, 0)) (q := _) rfl (sx_if (o := false) (zcmp xge_of (decide_eq_false (by omega)))) ?_
      refine yreach.at (S' := (23, [(3, .inr (.inr (1, 25 + 2 * (6 + r)))), (0, .inr (.inr (1, 0))), (1, .inl ((r : Int), (r : Int))), (2, .inl (n, n))], [.inr (.inr (1, 0))], w, 0, 0)) (q := _) rfl rfl ?_
      refine yreach.at (S' := (24, [(3, .inr (.inr (1, 25 + 2 * (6 + r)))), (0, .inr (.inr (1, 0))), (1, .inl ((r : Int), (r : Int))), (2, .inl (n, n))], [.inl (5, 5), .inr (.inr (1, 0))], w, 0, 0)) (q := _) rfl rfl ?_
      refine ycall_at (N := xm10) (ro := some (.inl (-3, -3))) (w' := w2) (recv := true) (i := .invokevirtual 82) (a := 10) (na := 2) (z := 0) rfl (fun _ => rfl) rfl m2 ⟨Nat.le_of_ble_eq_true rfl, Nat.le_of_ble_eq_true rfl, Nat.le_of_ble_eq_true rfl, Nat.le_of_ble_eq_true rfl, Nat.le_of_ble_eq_true rfl, Nat.le_of_ble_eq_true rfl, (xrecv_at (as := [.inl (5, 5)]) hw)⟩ ?_
      show yreach (ySt sc xm19) (yJm l D tA ex sc xm19) (_) (27, [(3, .inr (.inr (1, 25 + 2 * (6 + r)))), (0, .inr (.inr (1, 0))), (1, .inl ((r : Int), (r : Int))), (2, .inl (n, n))], [.inl (-3, -3)], w2, 0, 0)
      exact yreach.ret (q := (some (.inl (-3, -3)), w2, 0, 0)) ((xstep_at rfl).trans rfl) rfl
    obtain ⟨n, rfl⟩ : ∃ u : Nat, n = (u : Int) := ⟨n.toNat, by omega⟩
    have hnn : n ≤ 40 := by omega
    have hs : 6 + r < 10 := by omega
    obtain ⟨z, es, c1, c2, c3, c4⟩ := hU.2.2.1.2.2 (6 + r) hs
    rw [show zAnA 4 (r : Int) (n : Int) = (n : Int) from (if_neg (by omega)).trans (if_neg (by omega)), show zAnS 4 6 32 S (r : Int) (n : Int) = zup S (6 + r) (some (List.replicate n 32)) from if_pos (by omega)]
    have hne : (25 + 2 * (6 + r)) ≠ (26 + 2 * (6 + r)) := by omega
    have c1l := (List.getElem?_eq_some_iff.mp c1).1
    have c2l := (List.getElem?_eq_some_iff.mp c2).1
    have w1p : (w.set (25 + 2 * (6 + r)) (.inl (4, [.inr (.inr (1, 26 + 2 * (6 + r))), .inl ((n : Int), (n : Int))])))[(26 + 2 * (6 + r))]? = some (.inr (0, es)) := by
      rw [List.getElem?_set_ne hne]
      exact c2
    have hH1 : yheap yKD ks (w.set (25 + 2 * (6 + r)) (.inl (4, [.inr (.inr (1, 26 + 2 * (6 + r))), .inl ((n : Int), (n : Int))]))) := yheap_setf hU.1 (zks_o hU.2.1 hs) (show yKD 3 = some yK_3 from rfl) c1 (f := 1) rfl ⟨_, List.mem_cons_self, (n : Int), rfl, by omega, by omega, by omega, by omega⟩ rfl
    have hH2 : ∀ m : Nat, m ≤ 40 → yheap yKD ks ((w.set (25 + 2 * (6 + r)) (.inl (4, [.inr (.inr (1, 26 + 2 * (6 + r))), .inl ((n : Int), (n : Int))]))).set (26 + 2 * (6 + r)) (.inr (0, zfl es 0 (fun _ => .inl (32, 32)) m))) := fun m => by
      induction m with
      | zero =>
        intro _
        rw [show zfl es 0 (fun _ => .inl (32, 32)) 0 = es from rfl, zself w1p]
        exact hH1
      | succ m ih =>
        intro hm
        have h := yheap_seta (ih (by omega)) (zks_a hU.2.1 hs) (show yKD 4 = some yK_4 from rfl) (List.getElem?_set_self (by rw [List.length_set]; exact c2l)) (j := 0 + m) (v := .inl (32, 32)) ⟨_, List.mem_cons_self, 32, rfl, by decide, by decide, by decide, by decide⟩ rfl
        rw [List.set_set] at h
        exact h
    refine ⟨(w.set (25 + 2 * (6 + r)) (.inl (4, [.inr (.inr (1, 26 + 2 * (6 + r))), .inl ((n : Int), (n : Int))]))).set (26 + 2 * (6 + r)) (.inr (0, zfl es 0 (fun _ => .inl (32, 32)) n)), zex (j := 19) rfl (Nat.le_of_ble_eq_true rfl) ?_, hH2 n hnn, hU.2.1, zCA_up hU.2.2.1 hs (fun i h1 h2 => by rw [List.getElem?_set_ne (fun e => h2 e.symm), List.getElem?_set_ne (fun e => h1 e.symm)]) ⟨(n : Int), _, by rw [List.getElem?_set_ne (fun e => hne e.symm)]; exact List.getElem?_set_self c1l, List.getElem?_set_self (by rw [List.length_set]; exact c2l), by rw [zfl_len]; exact c3, zrep_anew (Nat.le_refl n) hnn (by omega)⟩, zMA_eq hU.2.2.2 (fun i h => by rw [List.getElem?_set_ne (by omega), List.getElem?_set_ne (by omega)])⟩
    refine yreach.at (S' := (1, [(0, .inr (.inr (1, 0))), (1, .inl ((r : Int), (r : Int))), (2, .inl ((n : Int), (n : Int)))], [.inr (.inr (1, 0))], w, 0, 0)) (q := _) rfl rfl ?_
    refine yreach.at (S' := (2, [(0, .inr (.inr (1, 0))), (1, .inl ((r : Int), (r : Int))), (2, .inl ((n : Int), (n : Int)))], [.inl ((r : Int), (r : Int)), .inr (.inr (1, 0))], w, 0, 0)) (q := _) rfl rfl ?_
    refine ycall_at (N := xm20) (ro := some (.inr (.inr (1, 25 + 2 * (6 + r))))) (w' := w) (recv := true) (i := .invokevirtual 113) (a := 20) (na := 2) (z := 0) rfl (fun _ => rfl) rfl (ztxt_in hU hr) ⟨Nat.le_of_ble_eq_true rfl, Nat.le_of_ble_eq_true rfl, Nat.le_of_ble_eq_true rfl, Nat.le_of_ble_eq_true rfl, Nat.le_of_ble_eq_true rfl, Nat.le_of_ble_eq_true rfl, (xrecv_at (as := [.inl ((r : Int), (r : Int))]) hw)⟩ ?_
    show yreach (ySt sc xm19) (yJm l D tA ex sc xm19) (_) (5, [(0, .inr (.inr (1, 0))), (1, .inl ((r : Int), (r : Int))), (2, .inl ((n : Int), (n : Int)))], [.inr (.inr (1, 25 + 2 * (6 + r)))], w, 0, 0)
    refine yreach.at (S' := (6, [(3, .inr (.inr (1, 25 + 2 * (6 + r)))), (0, .inr (.inr (1, 0))), (1, .inl ((r : Int), (r : Int))), (2, .inl ((n : Int), (n : Int)))], [], w, 0, 0)) (q := _) rfl rfl ?_
    refine yreach.at (S' := (7, [(3, .inr (.inr (1, 25 + 2 * (6 + r)))), (0, .inr (.inr (1, 0))), (1, .inl ((r : Int), (r : Int))), (2, .inl ((n : Int), (n : Int)))], [.inr (.inr (1, 25 + 2 * (6 + r)))], w, 0, 0)) (q := _) rfl rfl ?_
    refine yreach.at (S' := (10, [(3, .inr (.inr (1, 25 + 2 * (6 + r)))), (0, .inr (.inr (1, 0))), (1, .inl ((r : Int), (r : Int))), (2, .inl ((n : Int), (n : Int)))], [], w, 0, 0)) (q := _) rfl rfl ?_
    refine yreach.at (S' := (11, [(3, .inr (.inr (1, 25 + 2 * (6 + r)))), (0, .inr (.inr (1, 0))), (1, .inl ((r : Int), (r : Int))), (2, .inl ((n : Int), (n : Int)))], [.inl ((n : Int), (n : Int))], w, 0, 0)) (q := _) rfl rfl ?_
    refine yreach.at (S' := (13, [(3, .inr (.inr (1, 25 + 2 * (6 + r)))), (0, .inr (.inr (1, 0))), (1, .inl ((r : Int), (r : Int))), (2, .inl ((n : Int), (n : Int)))], [.inl (40, 40), .inl ((n : Int), (n : Int))], w, 0, 0)) (q := _) rfl rfl ?_
    refine yreach.at (S' := (18, [(3, .inr (.inr (1, 25 + 2 * (6 + r)))), (0, .inr (.inr (1, 0))), (1, .inl ((r : Int), (r : Int))), (2, .inl ((n : Int), (n : Int)))], [], w, 0, 0)) (q := _) rfl (sx_icmp (o := true) (zcmp zle_of (decide_eq_true (by omega)))) ?_
    refine yreach.at (S' := (19, [(3, .inr (.inr (1, 25 + 2 * (6 + r)))), (0, .inr (.inr (1, 0))), (1, .inl ((r : Int), (r : Int))), (2, .inl ((n : Int), (n : Int)))], [.inl ((n : Int), (n : Int))], w, 0, 0)) (q := _) rfl rfl ?_
    refine yreach.at (S' := (28, [(3, .inr (.inr (1, 25 + 2 * (6 + r)))), (0, .inr (.inr (1, 0))), (1, .inl ((r : Int), (r : Int))), (2, .inl ((n : Int), (n : Int)))], [], w, 0, 0)) (q := _) rfl (sx_if (o := true) (zcmp xge_of (decide_eq_true (by omega)))) ?_
    refine yreach.at (S' := (29, [(3, .inr (.inr (1, 25 + 2 * (6 + r)))), (0, .inr (.inr (1, 0))), (1, .inl ((r : Int), (r : Int))), (2, .inl ((n : Int), (n : Int)))], [.inr (.inr (1, 25 + 2 * (6 + r)))], w, 0, 0)) (q := _) rfl rfl ?_
    refine yreach.at (S' := (30, [(3, .inr (.inr (1, 25 + 2 * (6 + r)))), (0, .inr (.inr (1, 0))), (1, .inl ((r : Int), (r : Int))), (2, .inl ((n : Int), (n : Int)))], [.inl ((n : Int), (n : Int)), .inr (.inr (1, 25 + 2 * (6 + r)))], w, 0, 0)) (q := _) rfl rfl ?_
    refine yreach.at (S' := (32, [(3, .inr (.inr (1, 25 + 2 * (6 + r)))), (0, .inr (.inr (1, 0))), (1, .inl ((r : Int), (r : Int))), (2, .inl ((n : Int), (n : Int)))], [.inl (32, 32), .inl ((n : Int), (n : Int)), .inr (.inr (1, 25 + 2 * (6 + r)))], w, 0, 0)) (q := _) rfl rfl ?_
    refine ycall_at (N := xm11) (ro := none) (w' := (w.set (25 + 2 * (6 + r)) (.inl (4, [.inr (.inr (1, 26 + 2 * (6 + r))), .inl ((n : Int), (n : Int))]))).set (26 + 2 * (6 + r)) (.inr (0, zfl es 0 (fun _ => .inl (32, 32)) n))) (recv := true) (i := .invokevirtual 86) (a := 11) (na := 3) (z := 0) rfl (fun _ => rfl) rfl (zanew hne c1 c2 c3 hnn) ⟨Nat.le_of_ble_eq_true rfl, Nat.le_of_ble_eq_true rfl, Nat.le_of_ble_eq_true rfl, Nat.le_of_ble_eq_true rfl, Nat.le_of_ble_eq_true rfl, Nat.le_of_ble_eq_true rfl, (xrecv_at (as := [.inl ((n : Int), (n : Int)), .inl (32, 32)]) c1)⟩ ?_
    show yreach (ySt sc xm19) (yJm l D tA ex sc xm19) (_) (35, [(3, .inr (.inr (1, 25 + 2 * (6 + r)))), (0, .inr (.inr (1, 0))), (1, .inl ((r : Int), (r : Int))), (2, .inl ((n : Int), (n : Int)))], [], (w.set (25 + 2 * (6 + r)) (.inl (4, [.inr (.inr (1, 26 + 2 * (6 + r))), .inl ((n : Int), (n : Int))]))).set (26 + 2 * (6 + r)) (.inr (0, zfl es 0 (fun _ => .inl (32, 32)) n)), 0, 0)
    refine yreach.at (S' := (36, [(3, .inr (.inr (1, 25 + 2 * (6 + r)))), (0, .inr (.inr (1, 0))), (1, .inl ((r : Int), (r : Int))), (2, .inl ((n : Int), (n : Int)))], [.inl ((n : Int), (n : Int))], (w.set (25 + 2 * (6 + r)) (.inl (4, [.inr (.inr (1, 26 + 2 * (6 + r))), .inl ((n : Int), (n : Int))]))).set (26 + 2 * (6 + r)) (.inr (0, zfl es 0 (fun _ => .inl (32, 32)) n)), 0, 0)) (q := _) rfl rfl ?_
    exact yreach.ret (q := (some (.inl ((n : Int), (n : Int))), (w.set (25 + 2 * (6 + r)) (.inl (4, [.inr (.inr (1, 26 + 2 * (6 + r))), .inl ((n : Int), (n : Int))]))).set (26 + 2 * (6 + r)) (.inr (0, zfl es 0 (fun _ => .inl (32, 32)) n)), 0, 0)) ((xstep_at rfl).trans rfl) rfl
  · rw [show zAnA 4 a n = -1 from if_pos (by omega), show zAnS 4 6 32 S a n = S from if_neg (by omega)]
    refine ⟨w, zex (j := 19) rfl (Nat.le_of_ble_eq_true rfl) ?_, hU⟩
    refine yreach.at (S' := (1, [(0, .inr (.inr (1, 0))), (1, .inl (a, a)), (2, .inl (n, n))], [.inr (.inr (1, 0))], w, 0, 0)) (q := _) rfl rfl ?_
    refine yreach.at (S' := (2, [(0, .inr (.inr (1, 0))), (1, .inl (a, a)), (2, .inl (n, n))], [.inl (a, a), .inr (.inr (1, 0))], w, 0, 0)) (q := _) rfl rfl ?_
    refine ycall_at (N := xm20) (ro := some (.inr (.inr (0, 0)))) (w' := w) (recv := true) (i := .invokevirtual 113) (a := 20) (na := 2) (z := 0) rfl (fun _ => rfl) rfl (ztxt_no hU ha) ⟨Nat.le_of_ble_eq_true rfl, Nat.le_of_ble_eq_true rfl, Nat.le_of_ble_eq_true rfl, Nat.le_of_ble_eq_true rfl, Nat.le_of_ble_eq_true rfl, Nat.le_of_ble_eq_true rfl, (xrecv_at (as := [.inl (a, a)]) hw)⟩ ?_
    show yreach (ySt sc xm19) (yJm l D tA ex sc xm19) (_) (5, [(0, .inr (.inr (1, 0))), (1, .inl (a, a)), (2, .inl (n, n))], [.inr (.inr (0, 0))], w, 0, 0)
    refine yreach.at (S' := (6, [(3, .inr (.inr (0, 0))), (0, .inr (.inr (1, 0))), (1, .inl (a, a)), (2, .inl (n, n))], [], w, 0, 0)) (q := _) rfl rfl ?_
    refine yreach.at (S' := (7, [(3, .inr (.inr (0, 0))), (0, .inr (.inr (1, 0))), (1, .inl (a, a)), (2, .inl (n, n))], [.inr (.inr (0, 0))], w, 0, 0)) (q := _) rfl rfl ?_
    refine yreach.at (S' := (16, [(3, .inr (.inr (0, 0))), (0, .inr (.inr (1, 0))), (1, .inl (a, a)), (2, .inl (n, n))], [], w, 0, 0)) (q := _) rfl rfl ?_
    refine yreach.at (S' := (17, [(3, .inr (.inr (0, 0))), (0, .inr (.inr (1, 0))), (1, .inl (a, a)), (2, .inl (n, n))], [.inl (-1, -1)], w, 0, 0)) (q := _) rfl rfl ?_
    exact yreach.ret (q := (some (.inl (-1, -1)), w, 0, 0)) ((xstep_at rfl).trans rfl) rfl
end YH
