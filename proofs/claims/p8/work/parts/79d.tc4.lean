/-! ===== by hand: rows and texts of the model ===== -/
theorem zMB_up {w' : XW} {T : ZS} {i j base B s : Nat} {o : Option (List Int)} {sz es : List XV} (h : ∀ k, k < B → k ≠ s → ∃ z, sz[k]? = some (.inl (z, z)) ∧ zrep (T (base + k)) z es (40 * k)) (h1 : w'[i]? = some (.inr (0, sz))) (h2 : w'[j]? = some (.inr (0, es))) (l1 : sz.length = B) (l2 : es.length = 40 * B) (hn : ∃ z, sz[s]? = some (.inl (z, z)) ∧ zrep o z es (40 * s)) : zMB w' (zup T (base + s) o) i j base B := by
  refine ⟨sz, es, h1, h2, l1, l2, fun k hk => ?_⟩
  by_cases e : k = s
  · subst e
    rw [zup_at]
    exact hn
  · rw [zup_ne (by omega)]
    exact h k hk e
theorem zMB_ne {w w' : XW} {T : ZS} {i j base B s : Nat} {o : Option (List Int)} (h : zMB w T i j base B) (h1 : w'[i]? = w[i]?) (h2 : w'[j]? = w[j]?) (hs : s < base ∨ base + B ≤ s) : zMB w' (zup T s o) i j base B := by
  obtain ⟨sz, es, a1, a2, a3, a4, a5⟩ := h
  refine ⟨sz, es, h1.trans a1, h2.trans a2, a3, a4, fun k hk => ?_⟩
  rw [zup_ne (by omega)]
  exact a5 k hk
/-- typed places -/
def zty (es : List XV) : Prop := ∀ (j : Nat) (v : XV), es[j]? = some v → ∃ z, v = .inl (z, z) ∧ yrg z
theorem zty_of {ks : List Nat} {w : XW} (h : yheap yKD ks w) {i k : Nat} (hk : ks[i]? = some k) {n : Nat} (hd : yKD k = some (.inr (0, n, [(0, -2147483648, 2147483647)]))) {es : List XV} (hw : w[i]? = some (.inr (0, es))) : zty es ∧ es.length = n := by
  obtain ⟨es', e1, e2, e3⟩ := yheap_a h hk hd
  rw [hw] at e1
  cases e1
  refine ⟨fun j v hj => ?_, e2⟩
  obtain ⟨e, h1, h2⟩ := e3 j v hj
  rw [List.mem_singleton.mp h1] at h2
  obtain ⟨z, h3, h4, h5, _⟩ := h2
  exact ⟨z, h3, h4, h5⟩
theorem zty_in {es : List XV} (h : zty es) {ks : List Nat} (j : Nat) (v : XV) (hj : es[j]? = some v) : yany ks [(0, -2147483648, 2147483647)] v := by
  obtain ⟨z, rfl, hz⟩ := h j v hj
  exact ⟨_, List.mem_cons_self, ytop_in hz⟩
theorem zty_set {es : List XV} (h : zty es) {i : Nat} {z : Int} (hz : yrg z) : zty (es.set i (.inl (z, z))) := fun j v hj => by
  by_cases e : i = j
  · subst e
    by_cases hl : i < es.length
    · rw [List.getElem?_set_self hl] at hj
      cases hj
      exact ⟨z, rfl, hz⟩
    · rw [List.getElem?_eq_none (by rw [List.length_set]; omega)] at hj
      cases hj
  · rw [List.getElem?_set_ne e] at hj
    exact h j v hj
theorem zty_fl {es : List XV} (h : zty es) {b : Nat} {g : Nat → XV} : ∀ {n : Nat}, (∀ k, k < n → ∃ z, g k = .inl (z, z) ∧ yrg z) → zty (zfl es b g n)
  | 0, _ => h
  | n + 1, hg => by
    obtain ⟨z, e, hz⟩ := hg n (by omega)
    show zty ((zfl es b g n).set (b + n) (g n))
    rw [e]
    exact zty_set (zty_fl h (fun k hk => hg k (by omega))) hz
section YH
variable {l : Launch} {D : va_G} {tA : Nat → ClassId} {ex : List Nat} {sc : List XV}
theorem zin_y {w : XW} {a b c : Int} (h : b ≤ a ∧ a ≤ c) : XMet l D vwCl (tysX tA) tA ex (xSTX ++ [sc]) xSV xNW xNF xTs xm160 [.inl (a, a), .inl (b, b), .inl (c, c)] w (some (.inl (1, 1))) w := by
  refine zex (j := 160) rfl (Nat.le_of_ble_eq_true rfl) ?_
  refine yreach.at (S' := (1, [(0, .inl (a, a)), (1, .inl (b, b)), (2, .inl (c, c))], [.inl (a, a)], w, 0, 0)) (q := _) rfl rfl ?_
  refine yreach.at (S' := (2, [(0, .inl (a, a)), (1, .inl (b, b)), (2, .inl (c, c))], [.inl (b, b), .inl (a, a)], w, 0, 0)) (q := _) rfl rfl ?_
  refine yreach.at (S' := (5, [(0, .inl (a, a)), (1, .inl (b, b)), (2, .inl (c, c))], [], w, 0, 0)) (q := _) rfl (sx_icmp (o := false) (zcmp (show xcmp .lt _ _ = _ from xlt_of) (decide_eq_false (by omega)))) ?_
  refine yreach.at (S' := (6, [(0, .inl (a, a)), (1, .inl (b, b)), (2, .inl (c, c))], [.inl (a, a)], w, 0, 0)) (q := _) rfl rfl ?_
  refine yreach.at (S' := (7, [(0, .inl (a, a)), (1, .inl (b, b)), (2, .inl (c, c))], [.inl (c, c), .inl (a, a)], w, 0, 0)) (q := _) rfl rfl ?_
  refine yreach.at (S' := (10, [(0, .inl (a, a)), (1, .inl (b, b)), (2, .inl (c, c))], [], w, 0, 0)) (q := _) rfl (sx_icmp (o := false) (zcmp xgt_of (decide_eq_false (by omega)))) ?_
  refine yreach.at (S' := (11, [(0, .inl (a, a)), (1, .inl (b, b)), (2, .inl (c, c))], [.inl (1, 1)], w, 0, 0)) (q := _) rfl rfl ?_
  refine yreach.at (S' := (15, [(0, .inl (a, a)), (1, .inl (b, b)), (2, .inl (c, c))], [.inl (1, 1)], w, 0, 0)) (q := _) rfl rfl ?_
  exact yreach.ret (q := (some (.inl (1, 1)), w, 0, 0)) ((xstep_at rfl).trans rfl) rfl
theorem zin_n {w : XW} {a b c : Int} (h : ¬ (b ≤ a ∧ a ≤ c)) : XMet l D vwCl (tysX tA) tA ex (xSTX ++ [sc]) xSV xNW xNF xTs xm160 [.inl (a, a), .inl (b, b), .inl (c, c)] w (some (.inl (0, 0))) w := by
  refine zex (j := 160) rfl (Nat.le_of_ble_eq_true rfl) ?_
  by_cases h1 : a < b
  · refine yreach.at (S' := (1, [(0, .inl (a, a)), (1, .inl (b, b)), (2, .inl (c, c))], [.inl (a, a)], w, 0, 0)) (q := _) rfl rfl ?_
    refine yreach.at (S' := (2, [(0, .inl (a, a)), (1, .inl (b, b)), (2, .inl (c, c))], [.inl (b, b), .inl (a, a)], w, 0, 0)) (q := _) rfl rfl ?_
    refine yreach.at (S' := (14, [(0, .inl (a, a)), (1, .inl (b, b)), (2, .inl (c, c))], [], w, 0, 0)) (q := _) rfl (sx_icmp (o := true) (zcmp (show xcmp .lt _ _ = _ from xlt_of) (decide_eq_true (by omega)))) ?_
    refine yreach.at (S' := (15, [(0, .inl (a, a)), (1, .inl (b, b)), (2, .inl (c, c))], [.inl (0, 0)], w, 0, 0)) (q := _) rfl rfl ?_
    exact yreach.ret (q := (some (.inl (0, 0)), w, 0, 0)) ((xstep_at rfl).trans rfl) rfl
  · refine yreach.at (S' := (1, [(0, .inl (a, a)), (1, .inl (b, b)), (2, .inl (c, c))], [.inl (a, a)], w, 0, 0)) (q := _) rfl rfl ?_
    refine yreach.at (S' := (2, [(0, .inl (a, a)), (1, .inl (b, b)), (2, .inl (c, c))], [.inl (b, b), .inl (a, a)], w, 0, 0)) (q := _) rfl rfl ?_
    refine yreach.at (S' := (5, [(0, .inl (a, a)), (1, .inl (b, b)), (2, .inl (c, c))], [], w, 0, 0)) (q := _) rfl (sx_icmp (o := false) (zcmp (show xcmp .lt _ _ = _ from xlt_of) (decide_eq_false (by omega)))) ?_
    refine yreach.at (S' := (6, [(0, .inl (a, a)), (1, .inl (b, b)), (2, .inl (c, c))], [.inl (a, a)], w, 0, 0)) (q := _) rfl rfl ?_
    refine yreach.at (S' := (7, [(0, .inl (a, a)), (1, .inl (b, b)), (2, .inl (c, c))], [.inl (c, c), .inl (a, a)], w, 0, 0)) (q := _) rfl rfl ?_
    refine yreach.at (S' := (14, [(0, .inl (a, a)), (1, .inl (b, b)), (2, .inl (c, c))], [], w, 0, 0)) (q := _) rfl (sx_icmp (o := true) (zcmp xgt_of (decide_eq_true (by omega)))) ?_
    refine yreach.at (S' := (15, [(0, .inl (a, a)), (1, .inl (b, b)), (2, .inl (c, c))], [.inl (0, 0)], w, 0, 0)) (q := _) rfl rfl ?_
    exact yreach.ret (q := (some (.inl (0, 0)), w, 0, 0)) ((xstep_at rfl).trans rfl) rfl
theorem zisr_y {w : XW} {a : Int} (h : (0 ≤ a ∧ a ≤ 5)) : XMet l D vwCl (tysX tA) tA ex (xSTX ++ [sc]) xSV xNW xNF xTs xm159 [.inl (a, a)] w (some (.inl (1, 1))) w := by
  refine zex (j := 159) rfl (Nat.le_of_ble_eq_true rfl) ?_
  refine yreach.at (S' := (1, [(0, .inl (a, a))], [.inl (a, a)], w, 0, 0)) (q := _) rfl rfl ?_
  refine yreach.at (S' := (2, [(0, .inl (a, a))], [.inl (0, 0), .inl (a, a)], w, 0, 0)) (q := _) rfl rfl ?_
  refine yreach.at (S' := (3, [(0, .inl (a, a))], [.inl (5, 5), .inl (0, 0), .inl (a, a)], w, 0, 0)) (q := _) rfl rfl ?_
  refine ycall_at (N := xm160) (ro := some (.inl (1, 1))) (w' := w) (recv := false) (i := .invokestatic 146) (a := 160) (na := 3) (z := 0) rfl (fun _ => rfl) rfl (zin_y (by omega)) ⟨Nat.le_of_ble_eq_true rfl, Nat.le_of_ble_eq_true rfl, Nat.le_of_ble_eq_true rfl, Nat.le_of_ble_eq_true rfl, Nat.le_of_ble_eq_true rfl, Nat.le_of_ble_eq_true rfl, rfl⟩ ?_
  show yreach (ySt sc xm159) (yJm l D tA ex sc xm159) (_) (6, [(0, .inl (a, a))], [.inl (1, 1)], w, 0, 0)
  exact yreach.ret (q := (some (.inl (1, 1)), w, 0, 0)) ((xstep_at rfl).trans rfl) rfl
theorem zisr_n {w : XW} {a : Int} (h : ¬ (0 ≤ a ∧ a ≤ 5)) : XMet l D vwCl (tysX tA) tA ex (xSTX ++ [sc]) xSV xNW xNF xTs xm159 [.inl (a, a)] w (some (.inl (0, 0))) w := by
  refine zex (j := 159) rfl (Nat.le_of_ble_eq_true rfl) ?_
  refine yreach.at (S' := (1, [(0, .inl (a, a))], [.inl (a, a)], w, 0, 0)) (q := _) rfl rfl ?_
  refine yreach.at (S' := (2, [(0, .inl (a, a))], [.inl (0, 0), .inl (a, a)], w, 0, 0)) (q := _) rfl rfl ?_
  refine yreach.at (S' := (3, [(0, .inl (a, a))], [.inl (5, 5), .inl (0, 0), .inl (a, a)], w, 0, 0)) (q := _) rfl rfl ?_
  refine ycall_at (N := xm160) (ro := some (.inl (0, 0))) (w' := w) (recv := false) (i := .invokestatic 146) (a := 160) (na := 3) (z := 0) rfl (fun _ => rfl) rfl (zin_n (by omega)) ⟨Nat.le_of_ble_eq_true rfl, Nat.le_of_ble_eq_true rfl, Nat.le_of_ble_eq_true rfl, Nat.le_of_ble_eq_true rfl, Nat.le_of_ble_eq_true rfl, Nat.le_of_ble_eq_true rfl, rfl⟩ ?_
  show yreach (ySt sc xm159) (yJm l D tA ex sc xm159) (_) (6, [(0, .inl (a, a))], [.inl (0, 0)], w, 0, 0)
  exact yreach.ret (q := (some (.inl (0, 0)), w, 0, 0)) ((xstep_at rfl).trans rfl) rfl
theorem zist_y {w : XW} {a : Int} (h : (0 ≤ a ∧ a ≤ 3)) : XMet l D vwCl (tysX tA) tA ex (xSTX ++ [sc]) xSV xNW xNF xTs xm170 [.inl (a, a)] w (some (.inl (1, 1))) w := by
  refine zex (j := 170) rfl (Nat.le_of_ble_eq_true rfl) ?_
  refine yreach.at (S' := (1, [(0, .inl (a, a))], [.inl (a, a)], w, 0, 0)) (q := _) rfl rfl ?_
  refine yreach.at (S' := (2, [(0, .inl (a, a))], [.inl (0, 0), .inl (a, a)], w, 0, 0)) (q := _) rfl rfl ?_
  refine yreach.at (S' := (3, [(0, .inl (a, a))], [.inl (3, 3), .inl (0, 0), .inl (a, a)], w, 0, 0)) (q := _) rfl rfl ?_
  refine ycall_at (N := xm160) (ro := some (.inl (1, 1))) (w' := w) (recv := false) (i := .invokestatic 146) (a := 160) (na := 3) (z := 0) rfl (fun _ => rfl) rfl (zin_y (by omega)) ⟨Nat.le_of_ble_eq_true rfl, Nat.le_of_ble_eq_true rfl, Nat.le_of_ble_eq_true rfl, Nat.le_of_ble_eq_true rfl, Nat.le_of_ble_eq_true rfl, Nat.le_of_ble_eq_true rfl, rfl⟩ ?_
  show yreach (ySt sc xm170) (yJm l D tA ex sc xm170) (_) (6, [(0, .inl (a, a))], [.inl (1, 1)], w, 0, 0)
  exact yreach.ret (q := (some (.inl (1, 1)), w, 0, 0)) ((xstep_at rfl).trans rfl) rfl
theorem zist_n {w : XW} {a : Int} (h : ¬ (0 ≤ a ∧ a ≤ 3)) : XMet l D vwCl (tysX tA) tA ex (xSTX ++ [sc]) xSV xNW xNF xTs xm170 [.inl (a, a)] w (some (.inl (0, 0))) w := by
  refine zex (j := 170) rfl (Nat.le_of_ble_eq_true rfl) ?_
  refine yreach.at (S' := (1, [(0, .inl (a, a))], [.inl (a, a)], w, 0, 0)) (q := _) rfl rfl ?_
  refine yreach.at (S' := (2, [(0, .inl (a, a))], [.inl (0, 0), .inl (a, a)], w, 0, 0)) (q := _) rfl rfl ?_
  refine yreach.at (S' := (3, [(0, .inl (a, a))], [.inl (3, 3), .inl (0, 0), .inl (a, a)], w, 0, 0)) (q := _) rfl rfl ?_
  refine ycall_at (N := xm160) (ro := some (.inl (0, 0))) (w' := w) (recv := false) (i := .invokestatic 146) (a := 160) (na := 3) (z := 0) rfl (fun _ => rfl) rfl (zin_n (by omega)) ⟨Nat.le_of_ble_eq_true rfl, Nat.le_of_ble_eq_true rfl, Nat.le_of_ble_eq_true rfl, Nat.le_of_ble_eq_true rfl, Nat.le_of_ble_eq_true rfl, Nat.le_of_ble_eq_true rfl, rfl⟩ ?_
  show yreach (ySt sc xm170) (yJm l D tA ex sc xm170) (_) (6, [(0, .inl (a, a))], [.inl (0, 0)], w, 0, 0)
  exact yreach.ret (q := (some (.inl (0, 0)), w, 0, 0)) ((xstep_at rfl).trans rfl) rfl
theorem zask_row_y {ks : List Nat} {w : XW} {S T : ZS} (hU : zU ks w S T) {r : Nat} (hr : r < 6) {L : List Int} (hL : T (0 + r) = some L) : XMet l D vwCl (tysX tA) tA ex (xSTX ++ [sc]) xSV xNW xNF xTs xm163 [.inr (.inr (1, 57)), .inl ((r : Int), (r : Int))] w (some (.inl (0, 0))) w := by
  obtain ⟨fs, hw, g7, g8, g9, g10, g11⟩ := zf57 hU.1 hU.2.1
  have hM := hU.2.2.2
  obtain ⟨sz, es, a1, a2, a3, a4, a5⟩ := hM.1
  obtain ⟨z, b1, b2⟩ := a5 r hr
  rw [hL] at b2
  have h0 : 0 ≤ z := by
    have h1 := b2.1
    omega
  refine zex (j := 163) rfl (Nat.le_of_ble_eq_true rfl) ?_
  refine yreach.at (S' := (1, [(0, .inr (.inr (1, 57))), (1, .inl ((r : Int), (r : Int)))], [.inl ((r : Int), (r : Int))], w, 0, 0)) (q := _) rfl rfl ?_
  refine ycall_at (N := xm159) (ro := some (.inl (1, 1))) (w' := w) (recv := false) (i := .invokestatic 154) (a := 159) (na := 1) (z := 0) rfl (fun _ => rfl) rfl (zisr_y (by omega)) ⟨Nat.le_of_ble_eq_true rfl, Nat.le_of_ble_eq_true rfl, Nat.le_of_ble_eq_true rfl, Nat.le_of_ble_eq_true rfl, Nat.le_of_ble_eq_true rfl, Nat.le_of_ble_eq_true rfl, rfl⟩ ?_
  show yreach (ySt sc xm163) (yJm l D tA ex sc xm163) (_) (4, [(0, .inr (.inr (1, 57))), (1, .inl ((r : Int), (r : Int)))], [.inl (1, 1)], w, 0, 0)
  refine yreach.at (S' := (11, [(0, .inr (.inr (1, 57))), (1, .inl ((r : Int), (r : Int)))], [], w, 0, 0)) (q := _) rfl (sx_if (o := true) (zcmp xcne_of (decide_eq_true (by omega)))) ?_
  refine yreach.at (S' := (12, [(0, .inr (.inr (1, 57))), (1, .inl ((r : Int), (r : Int)))], [.inr (.inr (1, 57))], w, 0, 0)) (q := _) rfl rfl ?_
  refine yreach.at (S' := (15, [(0, .inr (.inr (1, 57))), (1, .inl ((r : Int), (r : Int)))], [.inr (.inr (1, 59))], w, 0, 0)) (q := _) rfl (sx_get hw g7) ?_
  refine yreach.at (S' := (16, [(0, .inr (.inr (1, 57))), (1, .inl ((r : Int), (r : Int)))], [.inl ((r : Int), (r : Int)), .inr (.inr (1, 59))], w, 0, 0)) (q := _) rfl rfl ?_
  refine yreach.at (S' := (17, [(0, .inr (.inr (1, 57))), (1, .inl ((r : Int), (r : Int)))], [.inl (z, z)], w, 0, 0)) (q := _) rfl (sx_iald a1 (zread b1)) ?_
  refine yreach.at (S' := (28, [(0, .inr (.inr (1, 57))), (1, .inl ((r : Int), (r : Int)))], [], w, 0, 0)) (q := _) rfl (sx_if (o := true) (zcmp xge_of (decide_eq_true (by omega)))) ?_
  refine yreach.at (S' := (29, [(0, .inr (.inr (1, 57))), (1, .inl ((r : Int), (r : Int)))], [.inl (0, 0)], w, 0, 0)) (q := _) rfl rfl ?_
  exact yreach.ret (q := (some (.inl (0, 0)), w, 0, 0)) ((xstep_at rfl).trans rfl) rfl
theorem zask_row_m {ks : List Nat} {w : XW} {S T : ZS} (hU : zU ks w S T) {r : Nat} (hr : r < 6) (hL : T (0 + r) = none) : ∃ w', XMet l D vwCl (tysX tA) tA ex (xSTX ++ [sc]) xSV xNW xNF xTs xm163 [.inr (.inr (1, 57)), .inl ((r : Int), (r : Int))] w (some (.inl (-3, -3))) w' ∧ zU ks w' S T := by
  obtain ⟨fs, hw, g7, g8, g9, g10, g11⟩ := zf57 hU.1 hU.2.1
  have hM := hU.2.2.2
  obtain ⟨sz, es, a1, a2, a3, a4, a5⟩ := hM.1
  obtain ⟨z, b1, b2⟩ := a5 r hr
  rw [hL] at b2
  have b2 : z < 0 := b2
  obtain ⟨w2, m2, hU2⟩ := zmeets (l := l) (D := D) (tA := tA) (ex := ex) (sc := sc) hU (v := 1) (by decide)
  refine ⟨w2, zex (j := 163) rfl (Nat.le_of_ble_eq_true rfl) ?_, hU2⟩
  refine yreach.at (S' := (1, [(0, .inr (.inr (1, 57))), (1, .inl ((r : Int), (r : Int)))], [.inl ((r : Int), (r : Int))], w, 0, 0)) (q := _) rfl rfl ?_
  refine ycall_at (N := xm159) (ro := some (.inl (1, 1))) (w' := w) (recv := false) (i := .invokestatic 154) (a := 159) (na := 1) (z := 0) rfl (fun _ => rfl) rfl (zisr_y (by omega)) ⟨Nat.le_of_ble_eq_true rfl, Nat.le_of_ble_eq_true rfl, Nat.le_of_ble_eq_true rfl, Nat.le_of_ble_eq_true rfl, Nat.le_of_ble_eq_true rfl, Nat.le_of_ble_eq_true rfl, rfl⟩ ?_
  show yreach (ySt sc xm163) (yJm l D tA ex sc xm163) (_) (4, [(0, .inr (.inr (1, 57))), (1, .inl ((r : Int), (r : Int)))], [.inl (1, 1)], w, 0, 0)
  refine yreach.at (S' := (11, [(0, .inr (.inr (1, 57))), (1, .inl ((r : Int), (r : Int)))], [], w, 0, 0)) (q := _) rfl (sx_if (o := true) (zcmp xcne_of (decide_eq_true (by omega)))) ?_
  refine yreach.at (S' := (12, [(0, .inr (.inr (1, 57))), (1, .inl ((r : Int), (r : Int)))], [.inr (.inr (1, 57))], w, 0, 0)) (q := _) rfl rfl ?_
  refine yreach.at (S' := (15, [(0, .inr (.inr (1, 57))), (1, .inl ((r : Int), (r : Int)))], [.inr (.inr (1, 59))], w, 0, 0)) (q := _) rfl (sx_get hw g7) ?_
  refine yreach.at (S' := (16, [(0, .inr (.inr (1, 57))), (1, .inl ((r : Int), (r : Int)))], [.inl ((r : Int), (r : Int)), .inr (.inr (1, 59))], w, 0, 0)) (q := _) rfl rfl ?_
  refine yreach.at (S' := (17, [(0, .inr (.inr (1, 57))), (1, .inl ((r : Int), (r : Int)))], [.inl (z, z)], w, 0, 0)) (q := _) rfl (sx_iald a1 (zread b1)) ?_
  refine yreach.at (S' := (20, [(0, .inr (.inr (1, 57))), (1, .inl ((r : Int), (r : Int)))], [], w, 0, 0)) (q := _) rfl (sx_if (o := false) (zcmp xge_of (decide_eq_false (by omega)))) ?_
  refine yreach.at (S' := (21, [(0, .inr (.inr (1, 57))), (1, .inl ((r : Int), (r : Int)))], [.inr (.inr (1, 57))], w, 0, 0)) (q := _) rfl rfl ?_
  refine yreach.at (S' := (22, [(0, .inr (.inr (1, 57))), (1, .inl ((r : Int), (r : Int)))], [.inl (1, 1), .inr (.inr (1, 57))], w, 0, 0)) (q := _) rfl rfl ?_
  refine ycall_at (N := xm161) (ro := some (.inl (-3, -3))) (w' := w2) (recv := true) (i := .invokevirtual 158) (a := 161) (na := 2) (z := 0) rfl (fun _ => rfl) rfl m2 ⟨Nat.le_of_ble_eq_true rfl, Nat.le_of_ble_eq_true rfl, Nat.le_of_ble_eq_true rfl, Nat.le_of_ble_eq_true rfl, Nat.le_of_ble_eq_true rfl, Nat.le_of_ble_eq_true rfl, (xrecv_at (as := [.inl (1, 1)]) hw)⟩ ?_
  show yreach (ySt sc xm163) (yJm l D tA ex sc xm163) (_) (25, [(0, .inr (.inr (1, 57))), (1, .inl ((r : Int), (r : Int)))], [.inl (-3, -3)], w2, 0, 0)
  refine yreach.at (S' := (29, [(0, .inr (.inr (1, 57))), (1, .inl ((r : Int), (r : Int)))], [.inl (-3, -3)], w2, 0, 0)) (q := _) rfl rfl ?_
  exact yreach.ret (q := (some (.inl (-3, -3)), w2, 0, 0)) ((xstep_at rfl).trans rfl) rfl
theorem zask_row_n {w : XW} {a : Int} (ha : ¬ (0 ≤ a ∧ a < 6)) : XMet l D vwCl (tysX tA) tA ex (xSTX ++ [sc]) xSV xNW xNF xTs xm163 [.inr (.inr (1, 57)), .inl (a, a)] w (some (.inl (-1, -1))) w := by
  refine zex (j := 163) rfl (Nat.le_of_ble_eq_true rfl) ?_
  refine yreach.at (S' := (1, [(0, .inr (.inr (1, 57))), (1, .inl (a, a))], [.inl (a, a)], w, 0, 0)) (q := _) rfl rfl ?_
  refine ycall_at (N := xm159) (ro := some (.inl (0, 0))) (w' := w) (recv := false) (i := .invokestatic 154) (a := 159) (na := 1) (z := 0) rfl (fun _ => rfl) rfl (zisr_n (by omega)) ⟨Nat.le_of_ble_eq_true rfl, Nat.le_of_ble_eq_true rfl, Nat.le_of_ble_eq_true rfl, Nat.le_of_ble_eq_true rfl, Nat.le_of_ble_eq_true rfl, Nat.le_of_ble_eq_true rfl, rfl⟩ ?_
  show yreach (ySt sc xm163) (yJm l D tA ex sc xm163) (_) (4, [(0, .inr (.inr (1, 57))), (1, .inl (a, a))], [.inl (0, 0)], w, 0, 0)
  refine yreach.at (S' := (7, [(0, .inr (.inr (1, 57))), (1, .inl (a, a))], [], w, 0, 0)) (q := _) rfl (sx_if (o := false) (zcmp xcne_of (decide_eq_false (by omega)))) ?_
  refine yreach.at (S' := (8, [(0, .inr (.inr (1, 57))), (1, .inl (a, a))], [.inl (-1, -1)], w, 0, 0)) (q := _) rfl rfl ?_
  refine yreach.at (S' := (29, [(0, .inr (.inr (1, 57))), (1, .inl (a, a))], [.inl (-1, -1)], w, 0, 0)) (q := _) rfl rfl ?_
  exact yreach.ret (q := (some (.inl (-1, -1)), w, 0, 0)) ((xstep_at rfl).trans rfl) rfl
theorem zask_text_y {ks : List Nat} {w : XW} {S T : ZS} (hU : zU ks w S T) {r : Nat} (hr : r < 4) {L : List Int} (hL : T (6 + r) = some L) : XMet l D vwCl (tysX tA) tA ex (xSTX ++ [sc]) xSV xNW xNF xTs xm172 [.inr (.inr (1, 57)), .inl ((r : Int), (r : Int))] w (some (.inl (0, 0))) w := by
  obtain ⟨fs, hw, g7, g8, g9, g10, g11⟩ := zf57 hU.1 hU.2.1
  have hM := hU.2.2.2
  obtain ⟨sz, es, a1, a2, a3, a4, a5⟩ := hM.2
  obtain ⟨z, b1, b2⟩ := a5 r hr
  rw [hL] at b2
  have h0 : 0 ≤ z := by
    have h1 := b2.1
    omega
  refine zex (j := 172) rfl (Nat.le_of_ble_eq_true rfl) ?_
  refine yreach.at (S' := (1, [(0, .inr (.inr (1, 57))), (1, .inl ((r : Int), (r : Int)))], [.inl ((r : Int), (r : Int))], w, 0, 0)) (q := _) rfl rfl ?_
  refine ycall_at (N := xm170) (ro := some (.inl (1, 1))) (w' := w) (recv := false) (i := .invokestatic 162) (a := 170) (na := 1) (z := 0) rfl (fun _ => rfl) rfl (zist_y (by omega)) ⟨Nat.le_of_ble_eq_true rfl, Nat.le_of_ble_eq_true rfl, Nat.le_of_ble_eq_true rfl, Nat.le_of_ble_eq_true rfl, Nat.le_of_ble_eq_true rfl, Nat.le_of_ble_eq_true rfl, rfl⟩ ?_
  show yreach (ySt sc xm172) (yJm l D tA ex sc xm172) (_) (4, [(0, .inr (.inr (1, 57))), (1, .inl ((r : Int), (r : Int)))], [.inl (1, 1)], w, 0, 0)
  refine yreach.at (S' := (11, [(0, .inr (.inr (1, 57))), (1, .inl ((r : Int), (r : Int)))], [], w, 0, 0)) (q := _) rfl (sx_if (o := true) (zcmp xcne_of (decide_eq_true (by omega)))) ?_
  refine yreach.at (S' := (12, [(0, .inr (.inr (1, 57))), (1, .inl ((r : Int), (r : Int)))], [.inr (.inr (1, 57))], w, 0, 0)) (q := _) rfl rfl ?_
  refine yreach.at (S' := (15, [(0, .inr (.inr (1, 57))), (1, .inl ((r : Int), (r : Int)))], [.inr (.inr (1, 62))], w, 0, 0)) (q := _) rfl (sx_get hw g10) ?_
  refine yreach.at (S' := (16, [(0, .inr (.inr (1, 57))), (1, .inl ((r : Int), (r : Int)))], [.inl ((r : Int), (r : Int)), .inr (.inr (1, 62))], w, 0, 0)) (q := _) rfl rfl ?_
  refine yreach.at (S' := (17, [(0, .inr (.inr (1, 57))), (1, .inl ((r : Int), (r : Int)))], [.inl (z, z)], w, 0, 0)) (q := _) rfl (sx_iald a1 (zread b1)) ?_
  refine yreach.at (S' := (28, [(0, .inr (.inr (1, 57))), (1, .inl ((r : Int), (r : Int)))], [], w, 0, 0)) (q := _) rfl (sx_if (o := true) (zcmp xge_of (decide_eq_true (by omega)))) ?_
  refine yreach.at (S' := (29, [(0, .inr (.inr (1, 57))), (1, .inl ((r : Int), (r : Int)))], [.inl (0, 0)], w, 0, 0)) (q := _) rfl rfl ?_
  exact yreach.ret (q := (some (.inl (0, 0)), w, 0, 0)) ((xstep_at rfl).trans rfl) rfl
theorem zask_text_m {ks : List Nat} {w : XW} {S T : ZS} (hU : zU ks w S T) {r : Nat} (hr : r < 4) (hL : T (6 + r) = none) : ∃ w', XMet l D vwCl (tysX tA) tA ex (xSTX ++ [sc]) xSV xNW xNF xTs xm172 [.inr (.inr (1, 57)), .inl ((r : Int), (r : Int))] w (some (.inl (-3, -3))) w' ∧ zU ks w' S T := by
  obtain ⟨fs, hw, g7, g8, g9, g10, g11⟩ := zf57 hU.1 hU.2.1
  have hM := hU.2.2.2
  obtain ⟨sz, es, a1, a2, a3, a4, a5⟩ := hM.2
  obtain ⟨z, b1, b2⟩ := a5 r hr
  rw [hL] at b2
  have b2 : z < 0 := b2
  obtain ⟨w2, m2, hU2⟩ := zmeets (l := l) (D := D) (tA := tA) (ex := ex) (sc := sc) hU (v := 1) (by decide)
  refine ⟨w2, zex (j := 172) rfl (Nat.le_of_ble_eq_true rfl) ?_, hU2⟩
  refine yreach.at (S' := (1, [(0, .inr (.inr (1, 57))), (1, .inl ((r : Int), (r : Int)))], [.inl ((r : Int), (r : Int))], w, 0, 0)) (q := _) rfl rfl ?_
  refine ycall_at (N := xm170) (ro := some (.inl (1, 1))) (w' := w) (recv := false) (i := .invokestatic 162) (a := 170) (na := 1) (z := 0) rfl (fun _ => rfl) rfl (zist_y (by omega)) ⟨Nat.le_of_ble_eq_true rfl, Nat.le_of_ble_eq_true rfl, Nat.le_of_ble_eq_true rfl, Nat.le_of_ble_eq_true rfl, Nat.le_of_ble_eq_true rfl, Nat.le_of_ble_eq_true rfl, rfl⟩ ?_
  show yreach (ySt sc xm172) (yJm l D tA ex sc xm172) (_) (4, [(0, .inr (.inr (1, 57))), (1, .inl ((r : Int), (r : Int)))], [.inl (1, 1)], w, 0, 0)
  refine yreach.at (S' := (11, [(0, .inr (.inr (1, 57))), (1, .inl ((r : Int), (r : Int)))], [], w, 0, 0)) (q := _) rfl (sx_if (o := true) (zcmp xcne_of (decide_eq_true (by omega)))) ?_
  refine yreach.at (S' := (12, [(0, .inr (.inr (1, 57))), (1, .inl ((r : Int), (r : Int)))], [.inr (.inr (1, 57))], w, 0, 0)) (q := _) rfl rfl ?_
  refine yreach.at (S' := (15, [(0, .inr (.inr (1, 57))), (1, .inl ((r : Int), (r : Int)))], [.inr (.inr (1, 62))], w, 0, 0)) (q := _) rfl (sx_get hw g10) ?_
  refine yreach.at (S' := (16, [(0, .inr (.inr (1, 57))), (1, .inl ((r : Int), (r : Int)))], [.inl ((r : Int), (r : Int)), .inr (.inr (1, 62))], w, 0, 0)) (q := _) rfl rfl ?_
  refine yreach.at (S' := (17, [(0, .inr (.inr (1, 57))), (1, .inl ((r : Int), (r : Int)))], [.inl (z, z)], w, 0, 0)) (q := _) rfl (sx_iald a1 (zread b1)) ?_
  refine yreach.at (S' := (20, [(0, .inr (.inr (1, 57))), (1, .inl ((r : Int), (r : Int)))], [], w, 0, 0)) (q := _) rfl (sx_if (o := false) (zcmp xge_of (decide_eq_false (by omega)))) ?_
  refine yreach.at (S' := (21, [(0, .inr (.inr (1, 57))), (1, .inl ((r : Int), (r : Int)))], [.inr (.inr (1, 57))], w, 0, 0)) (q := _) rfl rfl ?_
  refine yreach.at (S' := (22, [(0, .inr (.inr (1, 57))), (1, .inl ((r : Int), (r : Int)))], [.inl (1, 1), .inr (.inr (1, 57))], w, 0, 0)) (q := _) rfl rfl ?_
  refine ycall_at (N := xm161) (ro := some (.inl (-3, -3))) (w' := w2) (recv := true) (i := .invokevirtual 158) (a := 161) (na := 2) (z := 0) rfl (fun _ => rfl) rfl m2 ⟨Nat.le_of_ble_eq_true rfl, Nat.le_of_ble_eq_true rfl, Nat.le_of_ble_eq_true rfl, Nat.le_of_ble_eq_true rfl, Nat.le_of_ble_eq_true rfl, Nat.le_of_ble_eq_true rfl, (xrecv_at (as := [.inl (1, 1)]) hw)⟩ ?_
  show yreach (ySt sc xm172) (yJm l D tA ex sc xm172) (_) (25, [(0, .inr (.inr (1, 57))), (1, .inl ((r : Int), (r : Int)))], [.inl (-3, -3)], w2, 0, 0)
  refine yreach.at (S' := (29, [(0, .inr (.inr (1, 57))), (1, .inl ((r : Int), (r : Int)))], [.inl (-3, -3)], w2, 0, 0)) (q := _) rfl rfl ?_
  exact yreach.ret (q := (some (.inl (-3, -3)), w2, 0, 0)) ((xstep_at rfl).trans rfl) rfl
theorem zask_text_n {w : XW} {a : Int} (ha : ¬ (0 ≤ a ∧ a < 4)) : XMet l D vwCl (tysX tA) tA ex (xSTX ++ [sc]) xSV xNW xNF xTs xm172 [.inr (.inr (1, 57)), .inl (a, a)] w (some (.inl (-1, -1))) w := by
  refine zex (j := 172) rfl (Nat.le_of_ble_eq_true rfl) ?_
  refine yreach.at (S' := (1, [(0, .inr (.inr (1, 57))), (1, .inl (a, a))], [.inl (a, a)], w, 0, 0)) (q := _) rfl rfl ?_
  refine ycall_at (N := xm170) (ro := some (.inl (0, 0))) (w' := w) (recv := false) (i := .invokestatic 162) (a := 170) (na := 1) (z := 0) rfl (fun _ => rfl) rfl (zist_n (by omega)) ⟨Nat.le_of_ble_eq_true rfl, Nat.le_of_ble_eq_true rfl, Nat.le_of_ble_eq_true rfl, Nat.le_of_ble_eq_true rfl, Nat.le_of_ble_eq_true rfl, Nat.le_of_ble_eq_true rfl, rfl⟩ ?_
  show yreach (ySt sc xm172) (yJm l D tA ex sc xm172) (_) (4, [(0, .inr (.inr (1, 57))), (1, .inl (a, a))], [.inl (0, 0)], w, 0, 0)
  refine yreach.at (S' := (7, [(0, .inr (.inr (1, 57))), (1, .inl (a, a))], [], w, 0, 0)) (q := _) rfl (sx_if (o := false) (zcmp xcne_of (decide_eq_false (by omega)))) ?_
  refine yreach.at (S' := (8, [(0, .inr (.inr (1, 57))), (1, .inl (a, a))], [.inl (-1, -1)], w, 0, 0)) (q := _) rfl rfl ?_
  refine yreach.at (S' := (29, [(0, .inr (.inr (1, 57))), (1, .inl (a, a))], [.inl (-1, -1)], w, 0, 0)) (q := _) rfl rfl ?_
  exact yreach.ret (q := (some (.inl (-1, -1)), w, 0, 0)) ((xstep_at rfl).trans rfl) rfl
theorem zmat {ks : List Nat} {w : XW} (h4 : yheap yKD ks w) (hK : zK ks) {es : List XV} (hw60 : w[60]? = some (.inr (0, es))) {r i : Nat} (hr : r < 6) (hi : i < 40) {v : Int} (he : es[40 * r + i]? = some (.inl (v, v))) : XMet l D vwCl (tysX tA) tA ex (xSTX ++ [sc]) xSV xNW xNF xTs xm164 [.inr (.inr (1, 57)), .inl ((r : Int), (r : Int)), .inl ((i : Int), (i : Int))] w (some (.inl (v, v))) w := by
  obtain ⟨fs, hw, g7, g8, g9, g10, g11⟩ := zf57 h4 hK
  refine zex (j := 164) rfl (Nat.le_of_ble_eq_true rfl) ?_
  refine yreach.at (S' := (1, [(0, .inr (.inr (1, 57))), (1, .inl ((r : Int), (r : Int))), (2, .inl ((i : Int), (i : Int)))], [.inr (.inr (1, 57))], w, 0, 0)) (q := _) rfl rfl ?_
  refine yreach.at (S' := (4, [(0, .inr (.inr (1, 57))), (1, .inl ((r : Int), (r : Int))), (2, .inl ((i : Int), (i : Int)))], [.inr (.inr (1, 60))], w, 0, 0)) (q := _) rfl (sx_get hw g8) ?_
  refine yreach.at (S' := (6, [(0, .inr (.inr (1, 57))), (1, .inl ((r : Int), (r : Int))), (2, .inl ((i : Int), (i : Int)))], [.inl (40, 40), .inr (.inr (1, 60))], w, 0, 0)) (q := _) rfl rfl ?_
  refine yreach.at (S' := (7, [(0, .inr (.inr (1, 57))), (1, .inl ((r : Int), (r : Int))), (2, .inl ((i : Int), (i : Int)))], [.inl ((r : Int), (r : Int)), .inl (40, 40), .inr (.inr (1, 60))], w, 0, 0)) (q := _) rfl rfl ?_
  refine yreach.at (S' := (8, [(0, .inr (.inr (1, 57))), (1, .inl ((r : Int), (r : Int))), (2, .inl ((i : Int), (i : Int)))], [.inl (((40 * r : Nat) : Int), ((40 * r : Nat) : Int)), .inr (.inr (1, 60))], w, 0, 0)) (q := _) rfl (sx_bin rfl (z40 hr)) ?_
  refine yreach.at (S' := (9, [(0, .inr (.inr (1, 57))), (1, .inl ((r : Int), (r : Int))), (2, .inl ((i : Int), (i : Int)))], [.inl ((i : Int), (i : Int)), .inl (((40 * r : Nat) : Int), ((40 * r : Nat) : Int)), .inr (.inr (1, 60))], w, 0, 0)) (q := _) rfl rfl ?_
  refine yreach.at (S' := (10, [(0, .inr (.inr (1, 57))), (1, .inl ((r : Int), (r : Int))), (2, .inl ((i : Int), (i : Int)))], [.inl (((40 * r + i : Nat) : Int), ((40 * r + i : Nat) : Int)), .inr (.inr (1, 60))], w, 0, 0)) (q := _) rfl (sx_bin rfl (zadd (by omega) (by omega))) ?_
  refine yreach.at (S' := (11, [(0, .inr (.inr (1, 57))), (1, .inl ((r : Int), (r : Int))), (2, .inl ((i : Int), (i : Int)))], [.inl (v, v)], w, 0, 0)) (q := _) rfl (sx_iald hw60 (zread he)) ?_
  exact yreach.ret (q := (some (.inl (v, v)), w, 0, 0)) ((xstep_at rfl).trans rfl) rfl
theorem zmrow_loop {w : XW} {r n : Nat} {sz es fs : List XV} {Post : Option XV × XW × Nat × Nat → Prop} (hr : r < 6) (hw : w[57]? = some (.inl (10, fs))) (ge : fs[8]? = some (.inr (.inr (1, 60)))) (h0 : 60 < w.length) (hl : es.length = 240) (H : yreach (ySt sc xm158) (yJm l D tA ex sc xm158) (Post) (58, [(3, .inl (((40 : Nat) : Int), ((40 : Nat) : Int))), (0, .inr (.inr (1, 57))), (1, .inl ((r : Int), (r : Int))), (2, .inl ((n : Int), (n : Int)))], [], (w.set 59 (.inr (0, sz.set r (.inl ((n : Int), (n : Int)))))).set 60 (.inr (0, zfl es (40 * r) (fun _ => .inl (0, 0)) 40)), 0, 0)) : ∀ m i : Nat, i + m = 40 → yreach (ySt sc xm158) (yJm l D tA ex sc xm158) (Post) (34, [(3, .inl (((i : Nat) : Int), ((i : Nat) : Int))), (0, .inr (.inr (1, 57))), (1, .inl ((r : Int), (r : Int))), (2, .inl ((n : Int), (n : Int)))], [], (w.set 59 (.inr (0, sz.set r (.inl ((n : Int), (n : Int)))))).set 60 (.inr (0, zfl es (40 * r) (fun _ => .inl (0, 0)) i)), 0, 0)
  | 0, i, e => by
    have e : i = 40 := e
    subst e
    refine yreach.at (S' := (35, [(3, .inl (((40 : Nat) : Int), ((40 : Nat) : Int))), (0, .inr (.inr (1, 57))), (1, .inl ((r : Int), (r : Int))), (2, .inl ((n : Int), (n : Int)))], [.inl (((40 : Nat) : Int), ((40 : Nat) : Int))], (w.set 59 (.inr (0, sz.set r (.inl ((n : Int), (n : Int)))))).set 60 (.inr (0, zfl es (40 * r) (fun _ => .inl (0, 0)) 40)), 0, 0)) (q := _) rfl rfl ?_
    refine yreach.at (S' := (37, [(3, .inl (((40 : Nat) : Int), ((40 : Nat) : Int))), (0, .inr (.inr (1, 57))), (1, .inl ((r : Int), (r : Int))), (2, .inl ((n : Int), (n : Int)))], [.inl (40, 40), .inl (((40 : Nat) : Int), ((40 : Nat) : Int))], (w.set 59 (.inr (0, sz.set r (.inl ((n : Int), (n : Int)))))).set 60 (.inr (0, zfl es (40 * r) (fun _ => .inl (0, 0)) 40)), 0, 0)) (q := _) rfl rfl ?_
    refine yreach.at (S' := (58, [(3, .inl (((40 : Nat) : Int), ((40 : Nat) : Int))), (0, .inr (.inr (1, 57))), (1, .inl ((r : Int), (r : Int))), (2, .inl ((n : Int), (n : Int)))], [], (w.set 59 (.inr (0, sz.set r (.inl ((n : Int), (n : Int)))))).set 60 (.inr (0, zfl es (40 * r) (fun _ => .inl (0, 0)) 40)), 0, 0)) (q := _) rfl (sx_icmp (o := true) (zcmp xge_of (decide_eq_true (by decide)))) ?_
    exact H
  | m + 1, i, e => by
    have ih := zmrow_loop hr hw ge h0 hl H m (i + 1) (by omega)
    have e1 : zfl es (40 * r) (fun _ => .inl (0, 0)) (i + 1) = (zfl es (40 * r) (fun _ => .inl (0, 0)) i).set (40 * r + i) (.inl (0, 0)) := rfl
    rw [e1] at ih
    have hwp : ((w.set 59 (.inr (0, sz.set r (.inl ((n : Int), (n : Int)))))).set 60 (.inr (0, zfl es (40 * r) (fun _ => .inl (0, 0)) i)))[60]? = some (.inr (0, zfl es (40 * r) (fun _ => .inl (0, 0)) i)) := List.getElem?_set_self (by rw [List.length_set]; exact h0)
    have hwq : ((w.set 59 (.inr (0, sz.set r (.inl ((n : Int), (n : Int)))))).set 60 (.inr (0, zfl es (40 * r) (fun _ => .inl (0, 0)) i)))[57]? = some (.inl (10, fs)) := by
      rw [List.getElem?_set_ne (by decide), List.getElem?_set_ne (by decide)]
      exact hw
    refine yreach.at (S' := (35, [(3, .inl (((i : Nat) : Int), ((i : Nat) : Int))), (0, .inr (.inr (1, 57))), (1, .inl ((r : Int), (r : Int))), (2, .inl ((n : Int), (n : Int)))], [.inl (((i : Nat) : Int), ((i : Nat) : Int))], (w.set 59 (.inr (0, sz.set r (.inl ((n : Int), (n : Int)))))).set 60 (.inr (0, zfl es (40 * r) (fun _ => .inl (0, 0)) i)), 0, 0)) (q := _) rfl rfl ?_
    refine yreach.at (S' := (37, [(3, .inl (((i : Nat) : Int), ((i : Nat) : Int))), (0, .inr (.inr (1, 57))), (1, .inl ((r : Int), (r : Int))), (2, .inl ((n : Int), (n : Int)))], [.inl (40, 40), .inl (((i : Nat) : Int), ((i : Nat) : Int))], (w.set 59 (.inr (0, sz.set r (.inl ((n : Int), (n : Int)))))).set 60 (.inr (0, zfl es (40 * r) (fun _ => .inl (0, 0)) i)), 0, 0)) (q := _) rfl rfl ?_
    refine yreach.at (S' := (40, [(3, .inl (((i : Nat) : Int), ((i : Nat) : Int))), (0, .inr (.inr (1, 57))), (1, .inl ((r : Int), (r : Int))), (2, .inl ((n : Int), (n : Int)))], [], (w.set 59 (.inr (0, sz.set r (.inl ((n : Int), (n : Int)))))).set 60 (.inr (0, zfl es (40 * r) (fun _ => .inl (0, 0)) i)), 0, 0)) (q := _) rfl (sx_icmp (o := false) (zcmp xge_of (decide_eq_false (by omega)))) ?_
    refine yreach.at (S' := (41, [(3, .inl (((i : Nat) : Int), ((i : Nat) : Int))), (0, .inr (.inr (1, 57))), (1, .inl ((r : Int), (r : Int))), (2, .inl ((n : Int), (n : Int)))], [.inr (.inr (1, 57))], (w.set 59 (.inr (0, sz.set r (.inl ((n : Int), (n : Int)))))).set 60 (.inr (0, zfl es (40 * r) (fun _ => .inl (0, 0)) i)), 0, 0)) (q := _) rfl rfl ?_
    refine yreach.at (S' := (44, [(3, .inl (((i : Nat) : Int), ((i : Nat) : Int))), (0, .inr (.inr (1, 57))), (1, .inl ((r : Int), (r : Int))), (2, .inl ((n : Int), (n : Int)))], [.inr (.inr (1, 60))], (w.set 59 (.inr (0, sz.set r (.inl ((n : Int), (n : Int)))))).set 60 (.inr (0, zfl es (40 * r) (fun _ => .inl (0, 0)) i)), 0, 0)) (q := _) rfl (sx_get hwq ge) ?_
    refine yreach.at (S' := (46, [(3, .inl (((i : Nat) : Int), ((i : Nat) : Int))), (0, .inr (.inr (1, 57))), (1, .inl ((r : Int), (r : Int))), (2, .inl ((n : Int), (n : Int)))], [.inl (40, 40), .inr (.inr (1, 60))], (w.set 59 (.inr (0, sz.set r (.inl ((n : Int), (n : Int)))))).set 60 (.inr (0, zfl es (40 * r) (fun _ => .inl (0, 0)) i)), 0, 0)) (q := _) rfl rfl ?_
    refine yreach.at (S' := (47, [(3, .inl (((i : Nat) : Int), ((i : Nat) : Int))), (0, .inr (.inr (1, 57))), (1, .inl ((r : Int), (r : Int))), (2, .inl ((n : Int), (n : Int)))], [.inl ((r : Int), (r : Int)), .inl (40, 40), .inr (.inr (1, 60))], (w.set 59 (.inr (0, sz.set r (.inl ((n : Int), (n : Int)))))).set 60 (.inr (0, zfl es (40 * r) (fun _ => .inl (0, 0)) i)), 0, 0)) (q := _) rfl rfl ?_
    refine yreach.at (S' := (48, [(3, .inl (((i : Nat) : Int), ((i : Nat) : Int))), (0, .inr (.inr (1, 57))), (1, .inl ((r : Int), (r : Int))), (2, .inl ((n : Int), (n : Int)))], [.inl (((40 * r : Nat) : Int), ((40 * r : Nat) : Int)), .inr (.inr (1, 60))], (w.set 59 (.inr (0, sz.set r (.inl ((n : Int), (n : Int)))))).set 60 (.inr (0, zfl es (40 * r) (fun _ => .inl (0, 0)) i)), 0, 0)) (q := _) rfl (sx_bin rfl (z40 (by omega))) ?_
    refine yreach.at (S' := (49, [(3, .inl (((i : Nat) : Int), ((i : Nat) : Int))), (0, .inr (.inr (1, 57))), (1, .inl ((r : Int), (r : Int))), (2, .inl ((n : Int), (n : Int)))], [.inl (((i : Nat) : Int), ((i : Nat) : Int)), .inl (((40 * r : Nat) : Int), ((40 * r : Nat) : Int)), .inr (.inr (1, 60))], (w.set 59 (.inr (0, sz.set r (.inl ((n : Int), (n : Int)))))).set 60 (.inr (0, zfl es (40 * r) (fun _ => .inl (0, 0)) i)), 0, 0)) (q := _) rfl rfl ?_
    refine yreach.at (S' := (50, [(3, .inl (((i : Nat) : Int), ((i : Nat) : Int))), (0, .inr (.inr (1, 57))), (1, .inl ((r : Int), (r : Int))), (2, .inl ((n : Int), (n : Int)))], [.inl (((40 * r + i : Nat) : Int), ((40 * r + i : Nat) : Int)), .inr (.inr (1, 60))], (w.set 59 (.inr (0, sz.set r (.inl ((n : Int), (n : Int)))))).set 60 (.inr (0, zfl es (40 * r) (fun _ => .inl (0, 0)) i)), 0, 0)) (q := _) rfl (sx_bin rfl (zadd (by omega) (by omega))) ?_
    refine yreach.at (S' := (51, [(3, .inl (((i : Nat) : Int), ((i : Nat) : Int))), (0, .inr (.inr (1, 57))), (1, .inl ((r : Int), (r : Int))), (2, .inl ((n : Int), (n : Int)))], [.inl (0, 0), .inl (((40 * r + i : Nat) : Int), ((40 * r + i : Nat) : Int)), .inr (.inr (1, 60))], (w.set 59 (.inr (0, sz.set r (.inl ((n : Int), (n : Int)))))).set 60 (.inr (0, zfl es (40 * r) (fun _ => .inl (0, 0)) i)), 0, 0)) (q := _) rfl rfl ?_
    refine yreach.at (S' := (52, [(3, .inl (((i : Nat) : Int), ((i : Nat) : Int))), (0, .inr (.inr (1, 57))), (1, .inl ((r : Int), (r : Int))), (2, .inl ((n : Int), (n : Int)))], [], List.set (α := XC) ((w.set 59 (.inr (0, sz.set r (.inl ((n : Int), (n : Int)))))).set 60 (.inr (0, zfl es (40 * r) (fun _ => .inl (0, 0)) i))) 60 (.inr (0, (zfl es (40 * r) (fun _ => .inl (0, 0)) i).set (40 * r + i) (.inl (0, 0)))), 0, 0)) (q := _) rfl (by exact sx_iast hwp (zwrite (by rw [zfl_len, hl]; omega))) ?_
    refine yreach.at (S' := (55, [(3, .inl ((((i : Nat) : Int) + 1), (((i : Nat) : Int) + 1))), (0, .inr (.inr (1, 57))), (1, .inl ((r : Int), (r : Int))), (2, .inl ((n : Int), (n : Int)))], [], List.set (α := XC) ((w.set 59 (.inr (0, sz.set r (.inl ((n : Int), (n : Int)))))).set 60 (.inr (0, zfl es (40 * r) (fun _ => .inl (0, 0)) i))) 60 (.inr (0, (zfl es (40 * r) (fun _ => .inl (0, 0)) i).set (40 * r + i) (.inl (0, 0)))), 0, 0)) (q := _) rfl (sx_iinc (z := 1) rfl (Nat.le_of_ble_eq_true rfl) (by omega)) ?_
    refine yreach.at (S' := (34, [(3, .inl ((((i : Nat) : Int) + 1), (((i : Nat) : Int) + 1))), (0, .inr (.inr (1, 57))), (1, .inl ((r : Int), (r : Int))), (2, .inl ((n : Int), (n : Int)))], [], List.set (α := XC) ((w.set 59 (.inr (0, sz.set r (.inl ((n : Int), (n : Int)))))).set 60 (.inr (0, zfl es (40 * r) (fun _ => .inl (0, 0)) i))) 60 (.inr (0, (zfl es (40 * r) (fun _ => .inl (0, 0)) i).set (40 * r + i) (.inl (0, 0)))), 0, 0)) (q := _) rfl rfl ?_
    rw [List.set_set]
    exact ih
set_option maxHeartbeats 4000000 in
theorem zm_row {ks : List Nat} {w : XW} {S T : ZS} (hU : zU ks w S T) {a n : Int} (hn : yrg n) : ∃ w', XMet l D vwCl (tysX tA) tA ex (xSTX ++ [sc]) xSV xNW xNF xTs xm158 [.inr (.inr (1, 57)), .inl (a, a), .inl (n, n)] w (some (.inl ((zAnA 6 a n), (zAnA 6 a n)))) w' ∧ zU ks w' S (zAnS 6 0 0 T a n) := by
  obtain ⟨fs, hw, g7, g8, g9, g10, g11⟩ := zf57 hU.1 hU.2.1
  by_cases ha : 0 ≤ a ∧ a < 6
  · obtain ⟨r, rfl⟩ : ∃ r : Nat, a = (r : Int) := ⟨a.toNat, by omega⟩
    have hr : r < 6 := by omega
    by_cases h40 : 40 < n
    · rw [show zAnA 6 (r : Int) n = -1 from if_pos (by omega), show zAnS 6 0 0 T (r : Int) n = T from if_neg (by omega)]
      refine ⟨w, zex (j := 158) rfl (Nat.le_of_ble_eq_true rfl) ?_, hU⟩
      refine yreach.at (S' := (1, [(0, .inr (.inr (1, 57))), (1, .inl ((r : Int), (r : Int))), (2, .inl (n, n))], [.inl ((r : Int), (r : Int))], w, 0, 0)) (q := _) rfl rfl ?_
      refine ycall_at (N := xm159) (ro := some (.inl (1, 1))) (w' := w) (recv := false) (i := .invokestatic 154) (a := 159) (na := 1) (z := 0) rfl (fun _ => rfl) rfl (zisr_y (by omega)) ⟨Nat.le_of_ble_eq_true rfl, Nat.le_of_ble_eq_true rfl, Nat.le_of_ble_eq_true rfl, Nat.le_of_ble_eq_true rfl, Nat.le_of_ble_eq_true rfl, Nat.le_of_ble_eq_true rfl, rfl⟩ ?_
      show yreach (ySt sc xm158) (yJm l D tA ex sc xm158) (_) (4, [(0, .inr (.inr (1, 57))), (1, .inl ((r : Int), (r : Int))), (2, .inl (n, n))], [.inl (1, 1)], w, 0, 0)
      refine yreach.at (S' := (7, [(0, .inr (.inr (1, 57))), (1, .inl ((r : Int), (r : Int))), (2, .inl (n, n))], [], w, 0, 0)) (q := _) rfl (sx_if (o := false) (zcmp xceq_of (decide_eq_false (by omega)))) ?_
      refine yreach.at (S' := (8, [(0, .inr (.inr (1, 57))), (1, .inl ((r : Int), (r : Int))), (2, .inl (n, n))], [.inl (n, n)], w, 0, 0)) (q := _) rfl rfl ?_
      refine yreach.at (S' := (10, [(0, .inr (.inr (1, 57))), (1, .inl ((r : Int), (r : Int))), (2, .inl (n, n))], [.inl (40, 40), .inl (n, n)], w, 0, 0)) (q := _) rfl rfl ?_
      refine yreach.at (S' := (13, [(0, .inr (.inr (1, 57))), (1, .inl ((r : Int), (r : Int))), (2, .inl (n, n))], [], w, 0, 0)) (q := _) rfl (sx_icmp (o := false) (zcmp zle_of (decide_eq_false (by omega)))) ?_
      refine yreach.at (S' := (14, [(0, .inr (.inr (1, 57))), (1, .inl ((r : Int), (r : Int))), (2, .inl (n, n))], [.inl (-1, -1)], w, 0, 0)) (q := _) rfl rfl ?_
      exact yreach.ret (q := (some (.inl (-1, -1)), w, 0, 0)) ((xstep_at rfl).trans rfl) rfl
    by_cases hneg : n < 0
    · rw [show zAnA 6 (r : Int) n = -3 from (if_neg (by omega)).trans (if_pos hneg), show zAnS 6 0 0 T (r : Int) n = T from if_neg (by omega)]
      obtain ⟨w2, m2, hU2⟩ := zmeets (l := l) (D := D) (tA := tA) (ex := ex) (sc := sc) hU (v := 5) (by decide)
      refine ⟨w2, zex (j := 158) rfl (Nat.le_of_ble_eq_true rfl) ?_, hU2⟩
      refine yreach.at (S' := (1, [(0, .inr (.inr (1, 57))), (1, .inl ((r : Int), (r : Int))), (2, .inl (n, n))], [.inl ((r : Int), (r : Int))], w, 0, 0)) (q := _) rfl rfl ?_
      refine ycall_at (N := xm159) (ro := some (.inl (1, 1))) (w' := w) (recv := false) (i := .invokestatic 154) (a := 159) (na := 1) (z := 0) rfl (fun _ => rfl) rfl (zisr_y (by omega)) ⟨Nat.le_of_ble_eq_true rfl, Nat.le_of_ble_eq_true rfl, Nat.le_of_ble_eq_true rfl, Nat.le_of_ble_eq_true rfl, Nat.le_of_ble_eq_true rfl, Nat.le_of_ble_eq_true rfl, rfl⟩ ?_
      show yreach (ySt sc xm158) (yJm l D tA ex sc xm158) (_) (4, [(0, .inr (.inr (1, 57))), (1, .inl ((r : Int), (r : Int))), (2, .inl (n, n))], [.inl (1, 1)], w, 0, 0)
      refine yreach.at (S' := (7, [(0, .inr (.inr (1, 57))), (1, .inl ((r : Int), (r : Int))), (2, .inl (n, n))], [], w, 0, 0)) (q := _) rfl (sx_if (o := false) (zcmp xceq_of (decide_eq_false (by omega)))) ?_
      refine yreach.at (S' := (8, [(0, .inr (.inr (1, 57))), (1, .inl ((r : Int), (r : Int))), (2, .inl (n, n))], [.inl (n, n)], w, 0, 0)) (q := _) rfl rfl ?_
      refine yreach.at (S' := (10, [(0, .inr (.inr (1, 57))), (1, .inl ((r : Int), (r : Int))), (2, .inl (n, n))], [.inl (40, 40), .inl (n, n)], w, 0, 0)) (q := _) rfl rfl ?_
      refine yreach.at (S' := (15, [(0, .inr (.inr (1, 57))), (1, .inl ((r : Int), (r : Int))), (2, .inl (n, n))], [], w, 0, 0)) (q := _) rfl (sx_icmp (o := true) (zcmp zle_of (decide_eq_true (by omega)))) ?_
      refine yreach.at (S' := (16, [(0, .inr (.inr (1, 57))), (1, .inl ((r : Int), (r : Int))), (2, .inl (n, n))], [.inl (n, n)], w, 0, 0)) (q := _) rfl rfl ?_
      refine yreach.at (S' := (19, [(0, .inr (.inr (1, 57))), (1, .inl ((r : Int), (r : Int))), (2, .inl (n, n))], [], w, 0, 0)) (q := _) rfl (sx_if (o := false) (zcmp xge_of (decide_eq_false (by omega)))) ?_
      refine yreach.at (S' := (20, [(0, .inr (.inr (1, 57))), (1, .inl ((r : Int), (r : Int))), (2, .inl (n, n))], [.inr (.inr (1, 57))], w, 0, 0)) (q := _) rfl rfl ?_
      refine yreach.at (S' := (21, [(0, .inr (.inr (1, 57))), (1, .inl ((r : Int), (r : Int))), (2, .inl (n, n))], [.inl (5, 5), .inr (.inr (1, 57))], w, 0, 0)) (q := _) rfl rfl ?_
      refine ycall_at (N := xm161) (ro := some (.inl (-3, -3))) (w' := w2) (recv := true) (i := .invokevirtual 158) (a := 161) (na := 2) (z := 0) rfl (fun _ => rfl) rfl m2 ⟨Nat.le_of_ble_eq_true rfl, Nat.le_of_ble_eq_true rfl, Nat.le_of_ble_eq_true rfl, Nat.le_of_ble_eq_true rfl, Nat.le_of_ble_eq_true rfl, Nat.le_of_ble_eq_true rfl, (xrecv_at (as := [.inl (5, 5)]) hw)⟩ ?_
      show yreach (ySt sc xm158) (yJm l D tA ex sc xm158) (_) (24, [(0, .inr (.inr (1, 57))), (1, .inl ((r : Int), (r : Int))), (2, .inl (n, n))], [.inl (-3, -3)], w2, 0, 0)
      exact yreach.ret (q := (some (.inl (-3, -3)), w2, 0, 0)) ((xstep_at rfl).trans rfl) rfl
    obtain ⟨n, rfl⟩ : ∃ u : Nat, n = (u : Int) := ⟨n.toNat, by omega⟩
    have hnn : n ≤ 40 := by omega
    have hM := hU.2.2.2
    obtain ⟨sz, es, a1, a2, a3, a4, a5⟩ := hM.1
    have l1 := (List.getElem?_eq_some_iff.mp a1).1
    have l2 := (List.getElem?_eq_some_iff.mp a2).1
    rw [show zAnA 6 (r : Int) (n : Int) = (n : Int) from (if_neg (by omega)).trans (if_neg (by omega)), show zAnS 6 0 0 T (r : Int) (n : Int) = zup T (0 + r) (some (List.replicate n 0)) from if_pos (by omega)]
    have hH1 : yheap yKD ks (w.set 59 (.inr (0, sz.set r (.inl ((n : Int), (n : Int)))))) := yheap_seta hU.1 (hU.2.1.at rfl) (show yKD 32 = some yK_32 from rfl) a1 (j := r) ⟨_, List.mem_cons_self, (n : Int), rfl, by omega, by omega, by omega, by omega⟩ rfl
    have w1p : ((w.set 59 (.inr (0, sz.set r (.inl ((n : Int), (n : Int)))))) : XW)[60]? = some (.inr (0, es)) := by
      rw [List.getElem?_set_ne (by decide)]
      exact a2
    obtain ⟨ty, tl⟩ := zty_of hU.1 (hU.2.1.at rfl) (show yKD 33 = some yK_33 from rfl) a2
    have hH2 : yheap yKD ks ((w.set 59 (.inr (0, sz.set r (.inl ((n : Int), (n : Int)))))).set 60 (.inr (0, zfl es (40 * r) (fun _ => .inl (0, 0)) 40))) := zheap_arr hH1 (hU.2.1.at rfl) (show yKD 33 = some yK_33 from rfl) w1p (zfl_len.trans tl) (zty_in (zty_fl ty (fun _ _ => ⟨0, rfl, by decide, by decide⟩))) rfl
    refine ⟨(w.set 59 (.inr (0, sz.set r (.inl ((n : Int), (n : Int)))))).set 60 (.inr (0, zfl es (40 * r) (fun _ => .inl (0, 0)) 40)), zex (j := 158) rfl (Nat.le_of_ble_eq_true rfl) ?_, hH2, hU.2.1, zCA_eq hU.2.2.1 (fun i h => by rw [List.getElem?_set_ne (by omega), List.getElem?_set_ne (by omega)]), zMB_up (w' := (w.set 59 (.inr (0, sz.set r (.inl ((n : Int), (n : Int)))))).set 60 (.inr (0, zfl es (40 * r) (fun _ => .inl (0, 0)) 40))) (s := r) (fun k hk hne => by
        obtain ⟨z, k1, k2⟩ := a5 k hk
        exact ⟨z, by rw [List.getElem?_set_ne (fun e => hne e.symm)]; exact k1, zrep_eq k2 (fun j hj => zfl_out (by omega))⟩) (by rw [List.getElem?_set_ne (by decide)]; exact List.getElem?_set_self l1) (List.getElem?_set_self (by rw [List.length_set]; exact l2)) (by rw [List.length_set]; exact a3) (by rw [zfl_len]; exact a4) ⟨(n : Int), List.getElem?_set_self (by rw [a3]; exact hr), zrep_anew hnn hnn (by omega)⟩, zMB_ne hM.2 (by rw [List.getElem?_set_ne (by decide), List.getElem?_set_ne (by decide)]) (by rw [List.getElem?_set_ne (by decide), List.getElem?_set_ne (by decide)]) (by omega)⟩
    refine yreach.at (S' := (1, [(0, .inr (.inr (1, 57))), (1, .inl ((r : Int), (r : Int))), (2, .inl ((n : Int), (n : Int)))], [.inl ((r : Int), (r : Int))], w, 0, 0)) (q := _) rfl rfl ?_
    refine ycall_at (N := xm159) (ro := some (.inl (1, 1))) (w' := w) (recv := false) (i := .invokestatic 154) (a := 159) (na := 1) (z := 0) rfl (fun _ => rfl) rfl (zisr_y (by omega)) ⟨Nat.le_of_ble_eq_true rfl, Nat.le_of_ble_eq_true rfl, Nat.le_of_ble_eq_true rfl, Nat.le_of_ble_eq_true rfl, Nat.le_of_ble_eq_true rfl, Nat.le_of_ble_eq_true rfl, rfl⟩ ?_
    show yreach (ySt sc xm158) (yJm l D tA ex sc xm158) (_) (4, [(0, .inr (.inr (1, 57))), (1, .inl ((r : Int), (r : Int))), (2, .inl ((n : Int), (n : Int)))], [.inl (1, 1)], w, 0, 0)
    refine yreach.at (S' := (7, [(0, .inr (.inr (1, 57))), (1, .inl ((r : Int), (r : Int))), (2, .inl ((n : Int), (n : Int)))], [], w, 0, 0)) (q := _) rfl (sx_if (o := false) (zcmp xceq_of (decide_eq_false (by omega)))) ?_
    refine yreach.at (S' := (8, [(0, .inr (.inr (1, 57))), (1, .inl ((r : Int), (r : Int))), (2, .inl ((n : Int), (n : Int)))], [.inl ((n : Int), (n : Int))], w, 0, 0)) (q := _) rfl rfl ?_
    refine yreach.at (S' := (10, [(0, .inr (.inr (1, 57))), (1, .inl ((r : Int), (r : Int))), (2, .inl ((n : Int), (n : Int)))], [.inl (40, 40), .inl ((n : Int), (n : Int))], w, 0, 0)) (q := _) rfl rfl ?_
    refine yreach.at (S' := (15, [(0, .inr (.inr (1, 57))), (1, .inl ((r : Int), (r : Int))), (2, .inl ((n : Int), (n : Int)))], [], w, 0, 0)) (q := _) rfl (sx_icmp (o := true) (zcmp zle_of (decide_eq_true (by omega)))) ?_
    refine yreach.at (S' := (16, [(0, .inr (.inr (1, 57))), (1, .inl ((r : Int), (r : Int))), (2, .inl ((n : Int), (n : Int)))], [.inl ((n : Int), (n : Int))], w, 0, 0)) (q := _) rfl rfl ?_
    refine yreach.at (S' := (25, [(0, .inr (.inr (1, 57))), (1, .inl ((r : Int), (r : Int))), (2, .inl ((n : Int), (n : Int)))], [], w, 0, 0)) (q := _) rfl (sx_if (o := true) (zcmp xge_of (decide_eq_true (by omega)))) ?_
    refine yreach.at (S' := (26, [(0, .inr (.inr (1, 57))), (1, .inl ((r : Int), (r : Int))), (2, .inl ((n : Int), (n : Int)))], [.inr (.inr (1, 57))], w, 0, 0)) (q := _) rfl rfl ?_
    refine yreach.at (S' := (29, [(0, .inr (.inr (1, 57))), (1, .inl ((r : Int), (r : Int))), (2, .inl ((n : Int), (n : Int)))], [.inr (.inr (1, 59))], w, 0, 0)) (q := _) rfl (sx_get hw g7) ?_
    refine yreach.at (S' := (30, [(0, .inr (.inr (1, 57))), (1, .inl ((r : Int), (r : Int))), (2, .inl ((n : Int), (n : Int)))], [.inl ((r : Int), (r : Int)), .inr (.inr (1, 59))], w, 0, 0)) (q := _) rfl rfl ?_
    refine yreach.at (S' := (31, [(0, .inr (.inr (1, 57))), (1, .inl ((r : Int), (r : Int))), (2, .inl ((n : Int), (n : Int)))], [.inl ((n : Int), (n : Int)), .inl ((r : Int), (r : Int)), .inr (.inr (1, 59))], w, 0, 0)) (q := _) rfl rfl ?_
    refine yreach.at (S' := (32, [(0, .inr (.inr (1, 57))), (1, .inl ((r : Int), (r : Int))), (2, .inl ((n : Int), (n : Int)))], [], (w.set 59 (.inr (0, sz.set r (.inl ((n : Int), (n : Int)))))), 0, 0)) (q := _) rfl (by exact sx_iast a1 (zwrite (by rw [a3]; exact hr))) ?_
    refine yreach.at (S' := (33, [(0, .inr (.inr (1, 57))), (1, .inl ((r : Int), (r : Int))), (2, .inl ((n : Int), (n : Int)))], [.inl (0, 0)], (w.set 59 (.inr (0, sz.set r (.inl ((n : Int), (n : Int)))))), 0, 0)) (q := _) rfl rfl ?_
    refine yreach.at (S' := (34, [(3, .inl (0, 0)), (0, .inr (.inr (1, 57))), (1, .inl ((r : Int), (r : Int))), (2, .inl ((n : Int), (n : Int)))], [], (w.set 59 (.inr (0, sz.set r (.inl ((n : Int), (n : Int)))))), 0, 0)) (q := _) rfl rfl ?_
    have e0 : (w.set 59 (.inr (0, sz.set r (.inl ((n : Int), (n : Int)))))) = (w.set 59 (.inr (0, sz.set r (.inl ((n : Int), (n : Int)))))).set 60 (.inr (0, es)) := (zself w1p).symm
    have hh := zmrow_loop (l := l) (D := D) (tA := tA) (ex := ex) (sc := sc) (n := n) (sz := sz) (es := es) (Post := fun p => p = (some (.inl ((n : Int), (n : Int))), (w.set 59 (.inr (0, sz.set r (.inl ((n : Int), (n : Int)))))).set 60 (.inr (0, zfl es (40 * r) (fun _ => .inl (0, 0)) 40)), 0, 0)) hr hw g8 l2 a4 (by
      refine yreach.at (S' := (59, [(3, .inl (((40 : Nat) : Int), ((40 : Nat) : Int))), (0, .inr (.inr (1, 57))), (1, .inl ((r : Int), (r : Int))), (2, .inl ((n : Int), (n : Int)))], [.inl ((n : Int), (n : Int))], (w.set 59 (.inr (0, sz.set r (.inl ((n : Int), (n : Int)))))).set 60 (.inr (0, zfl es (40 * r) (fun _ => .inl (0, 0)) 40)), 0, 0)) (q := _) rfl rfl ?_
      exact yreach.ret (q := (some (.inl ((n : Int), (n : Int))), (w.set 59 (.inr (0, sz.set r (.inl ((n : Int), (n : Int)))))).set 60 (.inr (0, zfl es (40 * r) (fun _ => .inl (0, 0)) 40)), 0, 0)) ((xstep_at rfl).trans rfl) rfl) 40 0 rfl
    rw [show zfl es (40 * r) (fun _ => .inl (0, 0)) 0 = es from rfl, ← e0] at hh
    exact hh
  · rw [show zAnA 6 a n = -1 from if_pos (by omega), show zAnS 6 0 0 T a n = T from if_neg (by omega)]
    refine ⟨w, zex (j := 158) rfl (Nat.le_of_ble_eq_true rfl) ?_, hU⟩
    refine yreach.at (S' := (1, [(0, .inr (.inr (1, 57))), (1, .inl (a, a)), (2, .inl (n, n))], [.inl (a, a)], w, 0, 0)) (q := _) rfl rfl ?_
    refine ycall_at (N := xm159) (ro := some (.inl (0, 0))) (w' := w) (recv := false) (i := .invokestatic 154) (a := 159) (na := 1) (z := 0) rfl (fun _ => rfl) rfl (zisr_n (by omega)) ⟨Nat.le_of_ble_eq_true rfl, Nat.le_of_ble_eq_true rfl, Nat.le_of_ble_eq_true rfl, Nat.le_of_ble_eq_true rfl, Nat.le_of_ble_eq_true rfl, Nat.le_of_ble_eq_true rfl, rfl⟩ ?_
    show yreach (ySt sc xm158) (yJm l D tA ex sc xm158) (_) (4, [(0, .inr (.inr (1, 57))), (1, .inl (a, a)), (2, .inl (n, n))], [.inl (0, 0)], w, 0, 0)
    refine yreach.at (S' := (13, [(0, .inr (.inr (1, 57))), (1, .inl (a, a)), (2, .inl (n, n))], [], w, 0, 0)) (q := _) rfl (sx_if (o := true) (zcmp xceq_of (decide_eq_true (by omega)))) ?_
    refine yreach.at (S' := (14, [(0, .inr (.inr (1, 57))), (1, .inl (a, a)), (2, .inl (n, n))], [.inl (-1, -1)], w, 0, 0)) (q := _) rfl rfl ?_
    exact yreach.ret (q := (some (.inl (-1, -1)), w, 0, 0)) ((xstep_at rfl).trans rfl) rfl
theorem zmtext_loop {w : XW} {r n : Nat} {sz es fs : List XV} {Post : Option XV × XW × Nat × Nat → Prop} (hr : r < 4) (hw : w[57]? = some (.inl (10, fs))) (ge : fs[11]? = some (.inr (.inr (1, 63)))) (h0 : 63 < w.length) (hl : es.length = 160) (H : yreach (ySt sc xm169) (yJm l D tA ex sc xm169) (Post) (59, [(3, .inl (((40 : Nat) : Int), ((40 : Nat) : Int))), (0, .inr (.inr (1, 57))), (1, .inl ((r : Int), (r : Int))), (2, .inl ((n : Int), (n : Int)))], [], (w.set 62 (.inr (0, sz.set r (.inl ((n : Int), (n : Int)))))).set 63 (.inr (0, zfl es (40 * r) (fun _ => .inl (32, 32)) 40)), 0, 0)) : ∀ m i : Nat, i + m = 40 → yreach (ySt sc xm169) (yJm l D tA ex sc xm169) (Post) (34, [(3, .inl (((i : Nat) : Int), ((i : Nat) : Int))), (0, .inr (.inr (1, 57))), (1, .inl ((r : Int), (r : Int))), (2, .inl ((n : Int), (n : Int)))], [], (w.set 62 (.inr (0, sz.set r (.inl ((n : Int), (n : Int)))))).set 63 (.inr (0, zfl es (40 * r) (fun _ => .inl (32, 32)) i)), 0, 0)
  | 0, i, e => by
    have e : i = 40 := e
    subst e
    refine yreach.at (S' := (35, [(3, .inl (((40 : Nat) : Int), ((40 : Nat) : Int))), (0, .inr (.inr (1, 57))), (1, .inl ((r : Int), (r : Int))), (2, .inl ((n : Int), (n : Int)))], [.inl (((40 : Nat) : Int), ((40 : Nat) : Int))], (w.set 62 (.inr (0, sz.set r (.inl ((n : Int), (n : Int)))))).set 63 (.inr (0, zfl es (40 * r) (fun _ => .inl (32, 32)) 40)), 0, 0)) (q := _) rfl rfl ?_
    refine yreach.at (S' := (37, [(3, .inl (((40 : Nat) : Int), ((40 : Nat) : Int))), (0, .inr (.inr (1, 57))), (1, .inl ((r : Int), (r : Int))), (2, .inl ((n : Int), (n : Int)))], [.inl (40, 40), .inl (((40 : Nat) : Int), ((40 : Nat) : Int))], (w.set 62 (.inr (0, sz.set r (.inl ((n : Int), (n : Int)))))).set 63 (.inr (0, zfl es (40 * r) (fun _ => .inl (32, 32)) 40)), 0, 0)) (q := _) rfl rfl ?_
    refine yreach.at (S' := (59, [(3, .inl (((40 : Nat) : Int), ((40 : Nat) : Int))), (0, .inr (.inr (1, 57))), (1, .inl ((r : Int), (r : Int))), (2, .inl ((n : Int), (n : Int)))], [], (w.set 62 (.inr (0, sz.set r (.inl ((n : Int), (n : Int)))))).set 63 (.inr (0, zfl es (40 * r) (fun _ => .inl (32, 32)) 40)), 0, 0)) (q := _) rfl (sx_icmp (o := true) (zcmp xge_of (decide_eq_true (by decide)))) ?_
    exact H
  | m + 1, i, e => by
    have ih := zmtext_loop hr hw ge h0 hl H m (i + 1) (by omega)
    have e1 : zfl es (40 * r) (fun _ => .inl (32, 32)) (i + 1) = (zfl es (40 * r) (fun _ => .inl (32, 32)) i).set (40 * r + i) (.inl (32, 32)) := rfl
    rw [e1] at ih
    have hwp : ((w.set 62 (.inr (0, sz.set r (.inl ((n : Int), (n : Int)))))).set 63 (.inr (0, zfl es (40 * r) (fun _ => .inl (32, 32)) i)))[63]? = some (.inr (0, zfl es (40 * r) (fun _ => .inl (32, 32)) i)) := List.getElem?_set_self (by rw [List.length_set]; exact h0)
    have hwq : ((w.set 62 (.inr (0, sz.set r (.inl ((n : Int), (n : Int)))))).set 63 (.inr (0, zfl es (40 * r) (fun _ => .inl (32, 32)) i)))[57]? = some (.inl (10, fs)) := by
      rw [List.getElem?_set_ne (by decide), List.getElem?_set_ne (by decide)]
      exact hw
    refine yreach.at (S' := (35, [(3, .inl (((i : Nat) : Int), ((i : Nat) : Int))), (0, .inr (.inr (1, 57))), (1, .inl ((r : Int), (r : Int))), (2, .inl ((n : Int), (n : Int)))], [.inl (((i : Nat) : Int), ((i : Nat) : Int))], (w.set 62 (.inr (0, sz.set r (.inl ((n : Int), (n : Int)))))).set 63 (.inr (0, zfl es (40 * r) (fun _ => .inl (32, 32)) i)), 0, 0)) (q := _) rfl rfl ?_
    refine yreach.at (S' := (37, [(3, .inl (((i : Nat) : Int), ((i : Nat) : Int))), (0, .inr (.inr (1, 57))), (1, .inl ((r : Int), (r : Int))), (2, .inl ((n : Int), (n : Int)))], [.inl (40, 40), .inl (((i : Nat) : Int), ((i : Nat) : Int))], (w.set 62 (.inr (0, sz.set r (.inl ((n : Int), (n : Int)))))).set 63 (.inr (0, zfl es (40 * r) (fun _ => .inl (32, 32)) i)), 0, 0)) (q := _) rfl rfl ?_
    refine yreach.at (S' := (40, [(3, .inl (((i : Nat) : Int), ((i : Nat) : Int))), (0, .inr (.inr (1, 57))), (1, .inl ((r : Int), (r : Int))), (2, .inl ((n : Int), (n : Int)))], [], (w.set 62 (.inr (0, sz.set r (.inl ((n : Int), (n : Int)))))).set 63 (.inr (0, zfl es (40 * r) (fun _ => .inl (32, 32)) i)), 0, 0)) (q := _) rfl (sx_icmp (o := false) (zcmp xge_of (decide_eq_false (by omega)))) ?_
    refine yreach.at (S' := (41, [(3, .inl (((i : Nat) : Int), ((i : Nat) : Int))), (0, .inr (.inr (1, 57))), (1, .inl ((r : Int), (r : Int))), (2, .inl ((n : Int), (n : Int)))], [.inr (.inr (1, 57))], (w.set 62 (.inr (0, sz.set r (.inl ((n : Int), (n : Int)))))).set 63 (.inr (0, zfl es (40 * r) (fun _ => .inl (32, 32)) i)), 0, 0)) (q := _) rfl rfl ?_
    refine yreach.at (S' := (44, [(3, .inl (((i : Nat) : Int), ((i : Nat) : Int))), (0, .inr (.inr (1, 57))), (1, .inl ((r : Int), (r : Int))), (2, .inl ((n : Int), (n : Int)))], [.inr (.inr (1, 63))], (w.set 62 (.inr (0, sz.set r (.inl ((n : Int), (n : Int)))))).set 63 (.inr (0, zfl es (40 * r) (fun _ => .inl (32, 32)) i)), 0, 0)) (q := _) rfl (sx_get hwq ge) ?_
    refine yreach.at (S' := (46, [(3, .inl (((i : Nat) : Int), ((i : Nat) : Int))), (0, .inr (.inr (1, 57))), (1, .inl ((r : Int), (r : Int))), (2, .inl ((n : Int), (n : Int)))], [.inl (40, 40), .inr (.inr (1, 63))], (w.set 62 (.inr (0, sz.set r (.inl ((n : Int), (n : Int)))))).set 63 (.inr (0, zfl es (40 * r) (fun _ => .inl (32, 32)) i)), 0, 0)) (q := _) rfl rfl ?_
    refine yreach.at (S' := (47, [(3, .inl (((i : Nat) : Int), ((i : Nat) : Int))), (0, .inr (.inr (1, 57))), (1, .inl ((r : Int), (r : Int))), (2, .inl ((n : Int), (n : Int)))], [.inl ((r : Int), (r : Int)), .inl (40, 40), .inr (.inr (1, 63))], (w.set 62 (.inr (0, sz.set r (.inl ((n : Int), (n : Int)))))).set 63 (.inr (0, zfl es (40 * r) (fun _ => .inl (32, 32)) i)), 0, 0)) (q := _) rfl rfl ?_
    refine yreach.at (S' := (48, [(3, .inl (((i : Nat) : Int), ((i : Nat) : Int))), (0, .inr (.inr (1, 57))), (1, .inl ((r : Int), (r : Int))), (2, .inl ((n : Int), (n : Int)))], [.inl (((40 * r : Nat) : Int), ((40 * r : Nat) : Int)), .inr (.inr (1, 63))], (w.set 62 (.inr (0, sz.set r (.inl ((n : Int), (n : Int)))))).set 63 (.inr (0, zfl es (40 * r) (fun _ => .inl (32, 32)) i)), 0, 0)) (q := _) rfl (sx_bin rfl (z40 (by omega))) ?_
    refine yreach.at (S' := (49, [(3, .inl (((i : Nat) : Int), ((i : Nat) : Int))), (0, .inr (.inr (1, 57))), (1, .inl ((r : Int), (r : Int))), (2, .inl ((n : Int), (n : Int)))], [.inl (((i : Nat) : Int), ((i : Nat) : Int)), .inl (((40 * r : Nat) : Int), ((40 * r : Nat) : Int)), .inr (.inr (1, 63))], (w.set 62 (.inr (0, sz.set r (.inl ((n : Int), (n : Int)))))).set 63 (.inr (0, zfl es (40 * r) (fun _ => .inl (32, 32)) i)), 0, 0)) (q := _) rfl rfl ?_
    refine yreach.at (S' := (50, [(3, .inl (((i : Nat) : Int), ((i : Nat) : Int))), (0, .inr (.inr (1, 57))), (1, .inl ((r : Int), (r : Int))), (2, .inl ((n : Int), (n : Int)))], [.inl (((40 * r + i : Nat) : Int), ((40 * r + i : Nat) : Int)), .inr (.inr (1, 63))], (w.set 62 (.inr (0, sz.set r (.inl ((n : Int), (n : Int)))))).set 63 (.inr (0, zfl es (40 * r) (fun _ => .inl (32, 32)) i)), 0, 0)) (q := _) rfl (sx_bin rfl (zadd (by omega) (by omega))) ?_
    refine yreach.at (S' := (52, [(3, .inl (((i : Nat) : Int), ((i : Nat) : Int))), (0, .inr (.inr (1, 57))), (1, .inl ((r : Int), (r : Int))), (2, .inl ((n : Int), (n : Int)))], [.inl (32, 32), .inl (((40 * r + i : Nat) : Int), ((40 * r + i : Nat) : Int)), .inr (.inr (1, 63))], (w.set 62 (.inr (0, sz.set r (.inl ((n : Int), (n : Int)))))).set 63 (.inr (0, zfl es (40 * r) (fun _ => .inl (32, 32)) i)), 0, 0)) (q := _) rfl rfl ?_
    refine yreach.at (S' := (53, [(3, .inl (((i : Nat) : Int), ((i : Nat) : Int))), (0, .inr (.inr (1, 57))), (1, .inl ((r : Int), (r : Int))), (2, .inl ((n : Int), (n : Int)))], [], List.set (α := XC) ((w.set 62 (.inr (0, sz.set r (.inl ((n : Int), (n : Int)))))).set 63 (.inr (0, zfl es (40 * r) (fun _ => .inl (32, 32)) i))) 63 (.inr (0, (zfl es (40 * r) (fun _ => .inl (32, 32)) i).set (40 * r + i) (.inl (32, 32)))), 0, 0)) (q := _) rfl (by exact sx_iast hwp (zwrite (by rw [zfl_len, hl]; omega))) ?_
    refine yreach.at (S' := (56, [(3, .inl ((((i : Nat) : Int) + 1), (((i : Nat) : Int) + 1))), (0, .inr (.inr (1, 57))), (1, .inl ((r : Int), (r : Int))), (2, .inl ((n : Int), (n : Int)))], [], List.set (α := XC) ((w.set 62 (.inr (0, sz.set r (.inl ((n : Int), (n : Int)))))).set 63 (.inr (0, zfl es (40 * r) (fun _ => .inl (32, 32)) i))) 63 (.inr (0, (zfl es (40 * r) (fun _ => .inl (32, 32)) i).set (40 * r + i) (.inl (32, 32)))), 0, 0)) (q := _) rfl (sx_iinc (z := 1) rfl (Nat.le_of_ble_eq_true rfl) (by omega)) ?_
    refine yreach.at (S' := (34, [(3, .inl ((((i : Nat) : Int) + 1), (((i : Nat) : Int) + 1))), (0, .inr (.inr (1, 57))), (1, .inl ((r : Int), (r : Int))), (2, .inl ((n : Int), (n : Int)))], [], List.set (α := XC) ((w.set 62 (.inr (0, sz.set r (.inl ((n : Int), (n : Int)))))).set 63 (.inr (0, zfl es (40 * r) (fun _ => .inl (32, 32)) i))) 63 (.inr (0, (zfl es (40 * r) (fun _ => .inl (32, 32)) i).set (40 * r + i) (.inl (32, 32)))), 0, 0)) (q := _) rfl rfl ?_
    rw [List.set_set]
    exact ih
set_option maxHeartbeats 4000000 in
theorem zm_text {ks : List Nat} {w : XW} {S T : ZS} (hU : zU ks w S T) {a n : Int} (hn : yrg n) : ∃ w', XMet l D vwCl (tysX tA) tA ex (xSTX ++ [sc]) xSV xNW xNF xTs xm169 [.inr (.inr (1, 57)), .inl (a, a), .inl (n, n)] w (some (.inl ((zAnA 4 a n), (zAnA 4 a n)))) w' ∧ zU ks w' S (zAnS 4 6 32 T a n) := by
  obtain ⟨fs, hw, g7, g8, g9, g10, g11⟩ := zf57 hU.1 hU.2.1
  by_cases ha : 0 ≤ a ∧ a < 4
  · obtain ⟨r, rfl⟩ : ∃ r : Nat, a = (r : Int) := ⟨a.toNat, by omega⟩
    have hr : r < 4 := by omega
    by_cases h40 : 40 < n
    · rw [show zAnA 4 (r : Int) n = -1 from if_pos (by omega), show zAnS 4 6 32 T (r : Int) n = T from if_neg (by omega)]
      refine ⟨w, zex (j := 169) rfl (Nat.le_of_ble_eq_true rfl) ?_, hU⟩
      refine yreach.at (S' := (1, [(0, .inr (.inr (1, 57))), (1, .inl ((r : Int), (r : Int))), (2, .inl (n, n))], [.inl ((r : Int), (r : Int))], w, 0, 0)) (q := _) rfl rfl ?_
      refine ycall_at (N := xm170) (ro := some (.inl (1, 1))) (w' := w) (recv := false) (i := .invokestatic 162) (a := 170) (na := 1) (z := 0) rfl (fun _ => rfl) rfl (zist_y (by omega)) ⟨Nat.le_of_ble_eq_true rfl, Nat.le_of_ble_eq_true rfl, Nat.le_of_ble_eq_true rfl, Nat.le_of_ble_eq_true rfl, Nat.le_of_ble_eq_true rfl, Nat.le_of_ble_eq_true rfl, rfl⟩ ?_
      show yreach (ySt sc xm169) (yJm l D tA ex sc xm169) (_) (4, [(0, .inr (.inr (1, 57))), (1, .inl ((r : Int), (r : Int))), (2, .inl (n, n))], [.inl (1, 1)], w, 0, 0)
      refine yreach.at (S' := (7, [(0, .inr (.inr (1, 57))), (1, .inl ((r : Int), (r : Int))), (2, .inl (n, n))], [], w, 0, 0)) (q := _) rfl (sx_if (o := false) (zcmp xceq_of (decide_eq_false (by omega)))) ?_
      refine yreach.at (S' := (8, [(0, .inr (.inr (1, 57))), (1, .inl ((r : Int), (r : Int))), (2, .inl (n, n))], [.inl (n, n)], w, 0, 0)) (q := _) rfl rfl ?_
      refine yreach.at (S' := (10, [(0, .inr (.inr (1, 57))), (1, .inl ((r : Int), (r : Int))), (2, .inl (n, n))], [.inl (40, 40), .inl (n, n)], w, 0, 0)) (q := _) rfl rfl ?_
      refine yreach.at (S' := (13, [(0, .inr (.inr (1, 57))), (1, .inl ((r : Int), (r : Int))), (2, .inl (n, n))], [], w, 0, 0)) (q := _) rfl (sx_icmp (o := false) (zcmp zle_of (decide_eq_false (by omega)))) ?_
      refine yreach.at (S' := (14, [(0, .inr (.inr (1, 57))), (1, .inl ((r : Int), (r : Int))), (2, .inl (n, n))], [.inl (-1, -1)], w, 0, 0)) (q := _) rfl rfl ?_
      exact yreach.ret (q := (some (.inl (-1, -1)), w, 0, 0)) ((xstep_at rfl).trans rfl) rfl
    by_cases hneg : n < 0
    · rw [show zAnA 4 (r : Int) n = -3 from (if_neg (by omega)).trans (if_pos hneg), show zAnS 4 6 32 T (r : Int) n = T from if_neg (by omega)]
      obtain ⟨w2, m2, hU2⟩ := zmeets (l := l) (D := D) (tA := tA) (ex := ex) (sc := sc) hU (v := 5) (by decide)
      refine ⟨w2, zex (j := 169) rfl (Nat.le_of_ble_eq_true rfl) ?_, hU2⟩
      refine yreach.at (S' := (1, [(0, .inr (.inr (1, 57))), (1, .inl ((r : Int), (r : Int))), (2, .inl (n, n))], [.inl ((r : Int), (r : Int))], w, 0, 0)) (q := _) rfl rfl ?_
      refine ycall_at (N := xm170) (ro := some (.inl (1, 1))) (w' := w) (recv := false) (i := .invokestatic 162) (a := 170) (na := 1) (z := 0) rfl (fun _ => rfl) rfl (zist_y (by omega)) ⟨Nat.le_of_ble_eq_true rfl, Nat.le_of_ble_eq_true rfl, Nat.le_of_ble_eq_true rfl, Nat.le_of_ble_eq_true rfl, Nat.le_of_ble_eq_true rfl, Nat.le_of_ble_eq_true rfl, rfl⟩ ?_
      show yreach (ySt sc xm169) (yJm l D tA ex sc xm169) (_) (4, [(0, .inr (.inr (1, 57))), (1, .inl ((r : Int), (r : Int))), (2, .inl (n, n))], [.inl (1, 1)], w, 0, 0)
      refine yreach.at (S' := (7, [(0, .inr (.inr (1, 57))), (1, .inl ((r : Int), (r : Int))), (2, .inl (n, n))], [], w, 0, 0)) (q := _) rfl (sx_if (o := false) (zcmp xceq_of (decide_eq_false (by omega)))) ?_
      refine yreach.at (S' := (8, [(0, .inr (.inr (1, 57))), (1, .inl ((r : Int), (r : Int))), (2, .inl (n, n))], [.inl (n, n)], w, 0, 0)) (q := _) rfl rfl ?_
      refine yreach.at (S' := (10, [(0, .inr (.inr (1, 57))), (1, .inl ((r : Int), (r : Int))), (2, .inl (n, n))], [.inl (40, 40), .inl (n, n)], w, 0, 0)) (q := _) rfl rfl ?_
      refine yreach.at (S' := (15, [(0, .inr (.inr (1, 57))), (1, .inl ((r : Int), (r : Int))), (2, .inl (n, n))], [], w, 0, 0)) (q := _) rfl (sx_icmp (o := true) (zcmp zle_of (decide_eq_true (by omega)))) ?_
      refine yreach.at (S' := (16, [(0, .inr (.inr (1, 57))), (1, .inl ((r : Int), (r : Int))), (2, .inl (n, n))], [.inl (n, n)], w, 0, 0)) (q := _) rfl rfl ?_
      refine yreach.at (S' := (19, [(0, .inr (.inr (1, 57))), (1, .inl ((r : Int), (r : Int))), (2, .inl (n, n))], [], w, 0, 0)) (q := _) rfl (sx_if (o := false) (zcmp xge_of (decide_eq_false (by omega)))) ?_
      refine yreach.at (S' := (20, [(0, .inr (.inr (1, 57))), (1, .inl ((r : Int), (r : Int))), (2, .inl (n, n))], [.inr (.inr (1, 57))], w, 0, 0)) (q := _) rfl rfl ?_
      refine yreach.at (S' := (21, [(0, .inr (.inr (1, 57))), (1, .inl ((r : Int), (r : Int))), (2, .inl (n, n))], [.inl (5, 5), .inr (.inr (1, 57))], w, 0, 0)) (q := _) rfl rfl ?_
      refine ycall_at (N := xm161) (ro := some (.inl (-3, -3))) (w' := w2) (recv := true) (i := .invokevirtual 158) (a := 161) (na := 2) (z := 0) rfl (fun _ => rfl) rfl m2 ⟨Nat.le_of_ble_eq_true rfl, Nat.le_of_ble_eq_true rfl, Nat.le_of_ble_eq_true rfl, Nat.le_of_ble_eq_true rfl, Nat.le_of_ble_eq_true rfl, Nat.le_of_ble_eq_true rfl, (xrecv_at (as := [.inl (5, 5)]) hw)⟩ ?_
      show yreach (ySt sc xm169) (yJm l D tA ex sc xm169) (_) (24, [(0, .inr (.inr (1, 57))), (1, .inl ((r : Int), (r : Int))), (2, .inl (n, n))], [.inl (-3, -3)], w2, 0, 0)
      exact yreach.ret (q := (some (.inl (-3, -3)), w2, 0, 0)) ((xstep_at rfl).trans rfl) rfl
    obtain ⟨n, rfl⟩ : ∃ u : Nat, n = (u : Int) := ⟨n.toNat, by omega⟩
    have hnn : n ≤ 40 := by omega
    have hM := hU.2.2.2
    obtain ⟨sz, es, a1, a2, a3, a4, a5⟩ := hM.2
    have l1 := (List.getElem?_eq_some_iff.mp a1).1
    have l2 := (List.getElem?_eq_some_iff.mp a2).1
    rw [show zAnA 4 (r : Int) (n : Int) = (n : Int) from (if_neg (by omega)).trans (if_neg (by omega)), show zAnS 4 6 32 T (r : Int) (n : Int) = zup T (6 + r) (some (List.replicate n 32)) from if_pos (by omega)]
    have hH1 : yheap yKD ks (w.set 62 (.inr (0, sz.set r (.inl ((n : Int), (n : Int)))))) := yheap_seta hU.1 (hU.2.1.at rfl) (show yKD 35 = some yK_35 from rfl) a1 (j := r) ⟨_, List.mem_cons_self, (n : Int), rfl, by omega, by omega, by omega, by omega⟩ rfl
    have w1p : ((w.set 62 (.inr (0, sz.set r (.inl ((n : Int), (n : Int)))))) : XW)[63]? = some (.inr (0, es)) := by
      rw [List.getElem?_set_ne (by decide)]
      exact a2
    obtain ⟨ty, tl⟩ := zty_of hU.1 (hU.2.1.at rfl) (show yKD 36 = some yK_36 from rfl) a2
    have hH2 : yheap yKD ks ((w.set 62 (.inr (0, sz.set r (.inl ((n : Int), (n : Int)))))).set 63 (.inr (0, zfl es (40 * r) (fun _ => .inl (32, 32)) 40))) := zheap_arr hH1 (hU.2.1.at rfl) (show yKD 36 = some yK_36 from rfl) w1p (zfl_len.trans tl) (zty_in (zty_fl ty (fun _ _ => ⟨32, rfl, by decide, by decide⟩))) rfl
    refine ⟨(w.set 62 (.inr (0, sz.set r (.inl ((n : Int), (n : Int)))))).set 63 (.inr (0, zfl es (40 * r) (fun _ => .inl (32, 32)) 40)), zex (j := 169) rfl (Nat.le_of_ble_eq_true rfl) ?_, hH2, hU.2.1, zCA_eq hU.2.2.1 (fun i h => by rw [List.getElem?_set_ne (by omega), List.getElem?_set_ne (by omega)]), zMB_ne hM.1 (by rw [List.getElem?_set_ne (by decide), List.getElem?_set_ne (by decide)]) (by rw [List.getElem?_set_ne (by decide), List.getElem?_set_ne (by decide)]) (by omega), zMB_up (w' := (w.set 62 (.inr (0, sz.set r (.inl ((n : Int), (n : Int)))))).set 63 (.inr (0, zfl es (40 * r) (fun _ => .inl (32, 32)) 40))) (s := r) (fun k hk hne => by
        obtain ⟨z, k1, k2⟩ := a5 k hk
        exact ⟨z, by rw [List.getElem?_set_ne (fun e => hne e.symm)]; exact k1, zrep_eq k2 (fun j hj => zfl_out (by omega))⟩) (by rw [List.getElem?_set_ne (by decide)]; exact List.getElem?_set_self l1) (List.getElem?_set_self (by rw [List.length_set]; exact l2)) (by rw [List.length_set]; exact a3) (by rw [zfl_len]; exact a4) ⟨(n : Int), List.getElem?_set_self (by rw [a3]; exact hr), zrep_anew hnn hnn (by omega)⟩⟩
    refine yreach.at (S' := (1, [(0, .inr (.inr (1, 57))), (1, .inl ((r : Int), (r : Int))), (2, .inl ((n : Int), (n : Int)))], [.inl ((r : Int), (r : Int))], w, 0, 0)) (q := _) rfl rfl ?_
    refine ycall_at (N := xm170) (ro := some (.inl (1, 1))) (w' := w) (recv := false) (i := .invokestatic 162) (a := 170) (na := 1) (z := 0) rfl (fun _ => rfl) rfl (zist_y (by omega)) ⟨Nat.le_of_ble_eq_true rfl, Nat.le_of_ble_eq_true rfl, Nat.le_of_ble_eq_true rfl, Nat.le_of_ble_eq_true rfl, Nat.le_of_ble_eq_true rfl, Nat.le_of_ble_eq_true rfl, rfl⟩ ?_
    show yreach (ySt sc xm169) (yJm l D tA ex sc xm169) (_) (4, [(0, .inr (.inr (1, 57))), (1, .inl ((r : Int), (r : Int))), (2, .inl ((n : Int), (n : Int)))], [.inl (1, 1)], w, 0, 0)
    refine yreach.at (S' := (7, [(0, .inr (.inr (1, 57))), (1, .inl ((r : Int), (r : Int))), (2, .inl ((n : Int), (n : Int)))], [], w, 0, 0)) (q := _) rfl (sx_if (o := false) (zcmp xceq_of (decide_eq_false (by omega)))) ?_
    refine yreach.at (S' := (8, [(0, .inr (.inr (1, 57))), (1, .inl ((r : Int), (r : Int))), (2, .inl ((n : Int), (n : Int)))], [.inl ((n : Int), (n : Int))], w, 0, 0)) (q := _) rfl rfl ?_
    refine yreach.at (S' := (10, [(0, .inr (.inr (1, 57))), (1, .inl ((r : Int), (r : Int))), (2, .inl ((n : Int), (n : Int)))], [.inl (40, 40), .inl ((n : Int), (n : Int))], w, 0, 0)) (q := _) rfl rfl ?_
    refine yreach.at (S' := (15, [(0, .inr (.inr (1, 57))), (1, .inl ((r : Int), (r : Int))), (2, .inl ((n : Int), (n : Int)))], [], w, 0, 0)) (q := _) rfl (sx_icmp (o := true) (zcmp zle_of (decide_eq_true (by omega)))) ?_
    refine yreach.at (S' := (16, [(0, .inr (.inr (1, 57))), (1, .inl ((r : Int), (r : Int))), (2, .inl ((n : Int), (n : Int)))], [.inl ((n : Int), (n : Int))], w, 0, 0)) (q := _) rfl rfl ?_
    refine yreach.at (S' := (25, [(0, .inr (.inr (1, 57))), (1, .inl ((r : Int), (r : Int))), (2, .inl ((n : Int), (n : Int)))], [], w, 0, 0)) (q := _) rfl (sx_if (o := true) (zcmp xge_of (decide_eq_true (by omega)))) ?_
    refine yreach.at (S' := (26, [(0, .inr (.inr (1, 57))), (1, .inl ((r : Int), (r : Int))), (2, .inl ((n : Int), (n : Int)))], [.inr (.inr (1, 57))], w, 0, 0)) (q := _) rfl rfl ?_
    refine yreach.at (S' := (29, [(0, .inr (.inr (1, 57))), (1, .inl ((r : Int), (r : Int))), (2, .inl ((n : Int), (n : Int)))], [.inr (.inr (1, 62))], w, 0, 0)) (q := _) rfl (sx_get hw g10) ?_
    refine yreach.at (S' := (30, [(0, .inr (.inr (1, 57))), (1, .inl ((r : Int), (r : Int))), (2, .inl ((n : Int), (n : Int)))], [.inl ((r : Int), (r : Int)), .inr (.inr (1, 62))], w, 0, 0)) (q := _) rfl rfl ?_
    refine yreach.at (S' := (31, [(0, .inr (.inr (1, 57))), (1, .inl ((r : Int), (r : Int))), (2, .inl ((n : Int), (n : Int)))], [.inl ((n : Int), (n : Int)), .inl ((r : Int), (r : Int)), .inr (.inr (1, 62))], w, 0, 0)) (q := _) rfl rfl ?_
    refine yreach.at (S' := (32, [(0, .inr (.inr (1, 57))), (1, .inl ((r : Int), (r : Int))), (2, .inl ((n : Int), (n : Int)))], [], (w.set 62 (.inr (0, sz.set r (.inl ((n : Int), (n : Int)))))), 0, 0)) (q := _) rfl (by exact sx_iast a1 (zwrite (by rw [a3]; exact hr))) ?_
    refine yreach.at (S' := (33, [(0, .inr (.inr (1, 57))), (1, .inl ((r : Int), (r : Int))), (2, .inl ((n : Int), (n : Int)))], [.inl (0, 0)], (w.set 62 (.inr (0, sz.set r (.inl ((n : Int), (n : Int)))))), 0, 0)) (q := _) rfl rfl ?_
    refine yreach.at (S' := (34, [(3, .inl (0, 0)), (0, .inr (.inr (1, 57))), (1, .inl ((r : Int), (r : Int))), (2, .inl ((n : Int), (n : Int)))], [], (w.set 62 (.inr (0, sz.set r (.inl ((n : Int), (n : Int)))))), 0, 0)) (q := _) rfl rfl ?_
    have e0 : (w.set 62 (.inr (0, sz.set r (.inl ((n : Int), (n : Int)))))) = (w.set 62 (.inr (0, sz.set r (.inl ((n : Int), (n : Int)))))).set 63 (.inr (0, es)) := (zself w1p).symm
    have hh := zmtext_loop (l := l) (D := D) (tA := tA) (ex := ex) (sc := sc) (n := n) (sz := sz) (es := es) (Post := fun p => p = (some (.inl ((n : Int), (n : Int))), (w.set 62 (.inr (0, sz.set r (.inl ((n : Int), (n : Int)))))).set 63 (.inr (0, zfl es (40 * r) (fun _ => .inl (32, 32)) 40)), 0, 0)) hr hw g11 l2 a4 (by
      refine yreach.at (S' := (60, [(3, .inl (((40 : Nat) : Int), ((40 : Nat) : Int))), (0, .inr (.inr (1, 57))), (1, .inl ((r : Int), (r : Int))), (2, .inl ((n : Int), (n : Int)))], [.inl ((n : Int), (n : Int))], (w.set 62 (.inr (0, sz.set r (.inl ((n : Int), (n : Int)))))).set 63 (.inr (0, zfl es (40 * r) (fun _ => .inl (32, 32)) 40)), 0, 0)) (q := _) rfl rfl ?_
      exact yreach.ret (q := (some (.inl ((n : Int), (n : Int))), (w.set 62 (.inr (0, sz.set r (.inl ((n : Int), (n : Int)))))).set 63 (.inr (0, zfl es (40 * r) (fun _ => .inl (32, 32)) 40)), 0, 0)) ((xstep_at rfl).trans rfl) rfl) 40 0 rfl
    rw [show zfl es (40 * r) (fun _ => .inl (32, 32)) 0 = es from rfl, ← e0] at hh
    exact hh
  · rw [show zAnA 4 a n = -1 from if_pos (by omega), show zAnS 4 6 32 T a n = T from if_neg (by omega)]
    refine ⟨w, zex (j := 169) rfl (Nat.le_of_ble_eq_true rfl) ?_, hU⟩
    refine yreach.at (S' := (1, [(0, .inr (.inr (1, 57))), (1, .inl (a, a)), (2, .inl (n, n))], [.inl (a, a)], w, 0, 0)) (q := _) rfl rfl ?_
    refine ycall_at (N := xm170) (ro := some (.inl (0, 0))) (w' := w) (recv := false) (i := .invokestatic 162) (a := 170) (na := 1) (z := 0) rfl (fun _ => rfl) rfl (zist_n (by omega)) ⟨Nat.le_of_ble_eq_true rfl, Nat.le_of_ble_eq_true rfl, Nat.le_of_ble_eq_true rfl, Nat.le_of_ble_eq_true rfl, Nat.le_of_ble_eq_true rfl, Nat.le_of_ble_eq_true rfl, rfl⟩ ?_
    show yreach (ySt sc xm169) (yJm l D tA ex sc xm169) (_) (4, [(0, .inr (.inr (1, 57))), (1, .inl (a, a)), (2, .inl (n, n))], [.inl (0, 0)], w, 0, 0)
    refine yreach.at (S' := (13, [(0, .inr (.inr (1, 57))), (1, .inl (a, a)), (2, .inl (n, n))], [], w, 0, 0)) (q := _) rfl (sx_if (o := true) (zcmp xceq_of (decide_eq_true (by omega)))) ?_
    refine yreach.at (S' := (14, [(0, .inr (.inr (1, 57))), (1, .inl (a, a)), (2, .inl (n, n))], [.inl (-1, -1)], w, 0, 0)) (q := _) rfl rfl ?_
    exact yreach.ret (q := (some (.inl (-1, -1)), w, 0, 0)) ((xstep_at rfl).trans rfl) rfl
set_option maxHeartbeats 4000000 in
theorem zm_lay {ks : List Nat} {w : XW} {S T : ZS} (hU : zU ks w S T) {a i v : Int} (hi : yrg i) (hv : yrg v) : ∃ w', XMet l D vwCl (tysX tA) tA ex (xSTX ++ [sc]) xSV xNW xNF xTs xm162 [.inr (.inr (1, 57)), .inl (a, a), .inl (i, i), .inl (v, v)] w (some (.inl ((zLyA 6 0 T a i), (zLyA 6 0 T a i)))) w' ∧ zU ks w' S (zLyS 6 0 T a i v) := by
  obtain ⟨fs, hw, g7, g8, g9, g10, g11⟩ := zf57 hU.1 hU.2.1
  by_cases ha : 0 ≤ a ∧ a < 6
  · obtain ⟨r, rfl⟩ : ∃ r : Nat, a = (r : Int) := ⟨a.toNat, by omega⟩
    have hr : r < 6 := by omega
    have hM := hU.2.2.2
    obtain ⟨sz, es, a1, a2, a3, a4, a5⟩ := hM.1
    obtain ⟨z, b1, b2⟩ := a5 r hr
    have l1 := (List.getElem?_eq_some_iff.mp a1).1
    have l2 := (List.getElem?_eq_some_iff.mp a2).1
    have n0 : ¬ ((r : Int) < 0 ∨ 6 ≤ (r : Int)) := by omega
    have eA : zLyA 6 0 T (r : Int) i = (match T (0 + r) with
      | none => -3
      | some L => if 0 ≤ i ∧ i < L.length then 1 else -3) := if_neg n0
    have eS : zLyS 6 0 T (r : Int) i v = (match T (0 + r) with
      | none => T
      | some L => if 0 ≤ i ∧ i < L.length then zup T (0 + r) (some (L.set i.toNat v)) else T) := if_neg n0
    rw [eA, eS]
    cases hS : T (0 + r) with
    | none =>
      obtain ⟨w2, m2, hU2⟩ := zask_row_m (l := l) (D := D) (tA := tA) (ex := ex) (sc := sc) hU hr hS
      refine ⟨w2, zex (j := 162) rfl (Nat.le_of_ble_eq_true rfl) ?_, hU2⟩
      refine yreach.at (S' := (1, [(0, .inr (.inr (1, 57))), (1, .inl ((r : Int), (r : Int))), (2, .inl (i, i)), (3, .inl (v, v))], [.inr (.inr (1, 57))], w, 0, 0)) (q := _) rfl rfl ?_
      refine yreach.at (S' := (2, [(0, .inr (.inr (1, 57))), (1, .inl ((r : Int), (r : Int))), (2, .inl (i, i)), (3, .inl (v, v))], [.inl ((r : Int), (r : Int)), .inr (.inr (1, 57))], w, 0, 0)) (q := _) rfl rfl ?_
      refine ycall_at (N := xm163) (ro := some (.inl (-3, -3))) (w' := w2) (recv := true) (i := .invokevirtual 165) (a := 163) (na := 2) (z := 0) rfl (fun _ => rfl) rfl m2 ⟨Nat.le_of_ble_eq_true rfl, Nat.le_of_ble_eq_true rfl, Nat.le_of_ble_eq_true rfl, Nat.le_of_ble_eq_true rfl, Nat.le_of_ble_eq_true rfl, Nat.le_of_ble_eq_true rfl, (xrecv_at (as := [.inl ((r : Int), (r : Int))]) hw)⟩ ?_
      show yreach (ySt sc xm162) (yJm l D tA ex sc xm162) (_) (5, [(0, .inr (.inr (1, 57))), (1, .inl ((r : Int), (r : Int))), (2, .inl (i, i)), (3, .inl (v, v))], [.inl (-3, -3)], w2, 0, 0)
      refine yreach.at (S' := (7, [(4, .inl (-3, -3)), (0, .inr (.inr (1, 57))), (1, .inl ((r : Int), (r : Int))), (2, .inl (i, i)), (3, .inl (v, v))], [], w2, 0, 0)) (q := _) rfl rfl ?_
      refine yreach.at (S' := (9, [(4, .inl (-3, -3)), (0, .inr (.inr (1, 57))), (1, .inl ((r : Int), (r : Int))), (2, .inl (i, i)), (3, .inl (v, v))], [.inl (-3, -3)], w2, 0, 0)) (q := _) rfl rfl ?_
      refine yreach.at (S' := (12, [(4, .inl (-3, -3)), (0, .inr (.inr (1, 57))), (1, .inl ((r : Int), (r : Int))), (2, .inl (i, i)), (3, .inl (v, v))], [], w2, 0, 0)) (q := _) rfl (sx_if (o := false) (zcmp xge_of (decide_eq_false (by omega)))) ?_
      refine yreach.at (S' := (14, [(4, .inl (-3, -3)), (0, .inr (.inr (1, 57))), (1, .inl ((r : Int), (r : Int))), (2, .inl (i, i)), (3, .inl (v, v))], [.inl (-3, -3)], w2, 0, 0)) (q := _) rfl rfl ?_
      exact yreach.ret (q := (some (.inl (-3, -3)), w2, 0, 0)) ((xstep_at rfl).trans rfl) rfl
    | some L =>
      rw [hS] at b2
      have hz : 0 ≤ z ∧ z ≤ 40 := by
        have h1 := b2.1
        have h2 := b2.2.1
        omega
      dsimp only
      by_cases hh : 0 ≤ i ∧ i < L.length
      · obtain ⟨i, rfl⟩ : ∃ u : Nat, i = (u : Int) := ⟨i.toNat, by omega⟩
        have hiL : i < L.length := by omega
        have hL40 := b2.2.1
        have hL1 := b2.1
        have hL : L[i]? = some L[i] := List.getElem?_eq_getElem hiL
        have he : es[40 * r + i]? = some (.inl (L[i], L[i])) := b2.2.2 i _ hL
        rw [if_pos hh, if_pos hh]
        have hvr : yrg L[i] := zrng hU.1 (hU.2.1.at rfl) (show yKD 33 = some yK_33 from rfl) a2 he
        have hf2 : 2 < fs.length := by
          obtain ⟨fs', e1, e2, _⟩ := yheap_f hU.1 (hU.2.1.at (i := 57) (k := 30) rfl) (show yKD 30 = some yK_30 from rfl)
          rw [hw] at e1
          cases e1
          rw [e2]
          decide
        have hH0 : yheap yKD ks (w.set 57 (.inl (10, fs.set 2 (.inl (L[i], L[i]))))) := yheap_setf hU.1 (hU.2.1.at (i := 57) (k := 30) rfl) (show yKD 30 = some yK_30 from rfl) hw (f := 2) rfl ⟨_, List.mem_cons_self, ytop_in hvr⟩ rfl
        have a2' : ((w.set 57 (.inl (10, fs.set 2 (.inl (L[i], L[i]))))) : XW)[60]? = some (.inr (0, es)) := by
          rw [List.getElem?_set_ne (by decide)]
          exact a2
        have w57l := (List.getElem?_eq_some_iff.mp hw).1
        have hw' : ((w.set 57 (.inl (10, fs.set 2 (.inl (L[i], L[i]))))) : XW)[57]? = some (.inl (10, fs.set 2 (.inl (L[i], L[i])))) := List.getElem?_set_self w57l
        have ge' : (fs.set 2 (.inl (L[i], L[i])))[8]? = some (.inr (.inr (1, 60))) := by
          rw [List.getElem?_set_ne (by decide)]
          exact g8
        refine ⟨(List.set (α := XC) (w.set 57 (.inl (10, fs.set 2 (.inl (L[i], L[i]))))) 60 (.inr (0, es.set (40 * r + i) (.inl (v, v))))), zex (j := 162) rfl (Nat.le_of_ble_eq_true rfl) ?_, yheap_seta hH0 (hU.2.1.at rfl) (show yKD 33 = some yK_33 from rfl) a2' ⟨_, List.mem_cons_self, ytop_in hv⟩ rfl, hU.2.1, zCA_eq hU.2.2.1 (fun q h => by rw [List.getElem?_set_ne (by omega), List.getElem?_set_ne (by omega)]), zMB_up (w' := (List.set (α := XC) (w.set 57 (.inl (10, fs.set 2 (.inl (L[i], L[i]))))) 60 (.inr (0, es.set (40 * r + i) (.inl (v, v)))))) (s := r) (fun k hk hne => by
          obtain ⟨z, k1, k2⟩ := a5 k hk
          exact ⟨z, k1, zrep_eq k2 (fun j hj => List.getElem?_set_ne (by omega))⟩) (by rw [List.getElem?_set_ne (by decide), List.getElem?_set_ne (by decide)]; exact a1) (List.getElem?_set_self (by rw [List.length_set]; exact l2)) a3 (by rw [List.length_set]; exact a4) ⟨z, b1, zrep_set b2 hiL (by omega)⟩, zMB_ne hM.2 (by rw [List.getElem?_set_ne (by decide), List.getElem?_set_ne (by decide)]) (by rw [List.getElem?_set_ne (by decide), List.getElem?_set_ne (by decide)]) (by omega)⟩
        refine yreach.at (S' := (1, [(0, .inr (.inr (1, 57))), (1, .inl ((r : Int), (r : Int))), (2, .inl ((i : Int), (i : Int))), (3, .inl (v, v))], [.inr (.inr (1, 57))], w, 0, 0)) (q := _) rfl rfl ?_
        refine yreach.at (S' := (2, [(0, .inr (.inr (1, 57))), (1, .inl ((r : Int), (r : Int))), (2, .inl ((i : Int), (i : Int))), (3, .inl (v, v))], [.inl ((r : Int), (r : Int)), .inr (.inr (1, 57))], w, 0, 0)) (q := _) rfl rfl ?_
        refine ycall_at (N := xm163) (ro := some (.inl (0, 0))) (w' := w) (recv := true) (i := .invokevirtual 165) (a := 163) (na := 2) (z := 0) rfl (fun _ => rfl) rfl (zask_row_y hU hr hS) ⟨Nat.le_of_ble_eq_true rfl, Nat.le_of_ble_eq_true rfl, Nat.le_of_ble_eq_true rfl, Nat.le_of_ble_eq_true rfl, Nat.le_of_ble_eq_true rfl, Nat.le_of_ble_eq_true rfl, (xrecv_at (as := [.inl ((r : Int), (r : Int))]) hw)⟩ ?_
        show yreach (ySt sc xm162) (yJm l D tA ex sc xm162) (_) (5, [(0, .inr (.inr (1, 57))), (1, .inl ((r : Int), (r : Int))), (2, .inl ((i : Int), (i : Int))), (3, .inl (v, v))], [.inl (0, 0)], w, 0, 0)
        refine yreach.at (S' := (7, [(4, .inl (0, 0)), (0, .inr (.inr (1, 57))), (1, .inl ((r : Int), (r : Int))), (2, .inl ((i : Int), (i : Int))), (3, .inl (v, v))], [], w, 0, 0)) (q := _) rfl rfl ?_
        refine yreach.at (S' := (9, [(4, .inl (0, 0)), (0, .inr (.inr (1, 57))), (1, .inl ((r : Int), (r : Int))), (2, .inl ((i : Int), (i : Int))), (3, .inl (v, v))], [.inl (0, 0)], w, 0, 0)) (q := _) rfl rfl ?_
        refine yreach.at (S' := (15, [(4, .inl (0, 0)), (0, .inr (.inr (1, 57))), (1, .inl ((r : Int), (r : Int))), (2, .inl ((i : Int), (i : Int))), (3, .inl (v, v))], [], w, 0, 0)) (q := _) rfl (sx_if (o := true) (zcmp xge_of (decide_eq_true (by omega)))) ?_
        refine yreach.at (S' := (16, [(4, .inl (0, 0)), (0, .inr (.inr (1, 57))), (1, .inl ((r : Int), (r : Int))), (2, .inl ((i : Int), (i : Int))), (3, .inl (v, v))], [.inl ((i : Int), (i : Int))], w, 0, 0)) (q := _) rfl rfl ?_
        refine yreach.at (S' := (17, [(4, .inl (0, 0)), (0, .inr (.inr (1, 57))), (1, .inl ((r : Int), (r : Int))), (2, .inl ((i : Int), (i : Int))), (3, .inl (v, v))], [.inl (0, 0), .inl ((i : Int), (i : Int))], w, 0, 0)) (q := _) rfl rfl ?_
        refine yreach.at (S' := (18, [(4, .inl (0, 0)), (0, .inr (.inr (1, 57))), (1, .inl ((r : Int), (r : Int))), (2, .inl ((i : Int), (i : Int))), (3, .inl (v, v))], [.inr (.inr (1, 57)), .inl (0, 0), .inl ((i : Int), (i : Int))], w, 0, 0)) (q := _) rfl rfl ?_
        refine yreach.at (S' := (21, [(4, .inl (0, 0)), (0, .inr (.inr (1, 57))), (1, .inl ((r : Int), (r : Int))), (2, .inl ((i : Int), (i : Int))), (3, .inl (v, v))], [.inr (.inr (1, 59)), .inl (0, 0), .inl ((i : Int), (i : Int))], w, 0, 0)) (q := _) rfl (sx_get hw g7) ?_
        refine yreach.at (S' := (22, [(4, .inl (0, 0)), (0, .inr (.inr (1, 57))), (1, .inl ((r : Int), (r : Int))), (2, .inl ((i : Int), (i : Int))), (3, .inl (v, v))], [.inl ((r : Int), (r : Int)), .inr (.inr (1, 59)), .inl (0, 0), .inl ((i : Int), (i : Int))], w, 0, 0)) (q := _) rfl rfl ?_
        refine yreach.at (S' := (23, [(4, .inl (0, 0)), (0, .inr (.inr (1, 57))), (1, .inl ((r : Int), (r : Int))), (2, .inl ((i : Int), (i : Int))), (3, .inl (v, v))], [.inl (z, z), .inl (0, 0), .inl ((i : Int), (i : Int))], w, 0, 0)) (q := _) rfl (sx_iald a1 (zread b1)) ?_
        refine yreach.at (S' := (24, [(4, .inl (0, 0)), (0, .inr (.inr (1, 57))), (1, .inl ((r : Int), (r : Int))), (2, .inl ((i : Int), (i : Int))), (3, .inl (v, v))], [.inl (1, 1), .inl (z, z), .inl (0, 0), .inl ((i : Int), (i : Int))], w, 0, 0)) (q := _) rfl rfl ?_
        refine yreach.at (S' := (25, [(4, .inl (0, 0)), (0, .inr (.inr (1, 57))), (1, .inl ((r : Int), (r : Int))), (2, .inl ((i : Int), (i : Int))), (3, .inl (v, v))], [.inl ((z - 1), (z - 1)), .inl (0, 0), .inl ((i : Int), (i : Int))], w, 0, 0)) (q := _) rfl (sx_isub (by omega)) ?_
        refine ycall_at (N := xm160) (ro := some (.inl (1, 1))) (w' := w) (recv := false) (i := .invokestatic 146) (a := 160) (na := 3) (z := 0) rfl (fun _ => rfl) rfl (zin_y (by have h1 := b2.1; omega)) ⟨Nat.le_of_ble_eq_true rfl, Nat.le_of_ble_eq_true rfl, Nat.le_of_ble_eq_true rfl, Nat.le_of_ble_eq_true rfl, Nat.le_of_ble_eq_true rfl, Nat.le_of_ble_eq_true rfl, rfl⟩ ?_
        show yreach (ySt sc xm162) (yJm l D tA ex sc xm162) (_) (28, [(4, .inl (0, 0)), (0, .inr (.inr (1, 57))), (1, .inl ((r : Int), (r : Int))), (2, .inl ((i : Int), (i : Int))), (3, .inl (v, v))], [.inl (1, 1)], w, 0, 0)
        refine yreach.at (S' := (37, [(4, .inl (0, 0)), (0, .inr (.inr (1, 57))), (1, .inl ((r : Int), (r : Int))), (2, .inl ((i : Int), (i : Int))), (3, .inl (v, v))], [], w, 0, 0)) (q := _) rfl (sx_if (o := true) (zcmp xcne_of (decide_eq_true (by omega)))) ?_
        refine yreach.at (S' := (38, [(4, .inl (0, 0)), (0, .inr (.inr (1, 57))), (1, .inl ((r : Int), (r : Int))), (2, .inl ((i : Int), (i : Int))), (3, .inl (v, v))], [.inr (.inr (1, 57))], w, 0, 0)) (q := _) rfl rfl ?_
        refine yreach.at (S' := (39, [(4, .inl (0, 0)), (0, .inr (.inr (1, 57))), (1, .inl ((r : Int), (r : Int))), (2, .inl ((i : Int), (i : Int))), (3, .inl (v, v))], [.inr (.inr (1, 57)), .inr (.inr (1, 57))], w, 0, 0)) (q := _) rfl rfl ?_
        refine yreach.at (S' := (40, [(4, .inl (0, 0)), (0, .inr (.inr (1, 57))), (1, .inl ((r : Int), (r : Int))), (2, .inl ((i : Int), (i : Int))), (3, .inl (v, v))], [.inl ((r : Int), (r : Int)), .inr (.inr (1, 57)), .inr (.inr (1, 57))], w, 0, 0)) (q := _) rfl rfl ?_
        refine yreach.at (S' := (41, [(4, .inl (0, 0)), (0, .inr (.inr (1, 57))), (1, .inl ((r : Int), (r : Int))), (2, .inl ((i : Int), (i : Int))), (3, .inl (v, v))], [.inl ((i : Int), (i : Int)), .inl ((r : Int), (r : Int)), .inr (.inr (1, 57)), .inr (.inr (1, 57))], w, 0, 0)) (q := _) rfl rfl ?_
        refine ycall_at (N := xm164) (ro := some (.inl (L[i], L[i]))) (w' := w) (recv := true) (i := .invokevirtual 168) (a := 164) (na := 3) (z := 0) rfl (fun _ => rfl) rfl (zmat hU.1 hU.2.1 a2 hr (by omega) he) ⟨Nat.le_of_ble_eq_true rfl, Nat.le_of_ble_eq_true rfl, Nat.le_of_ble_eq_true rfl, Nat.le_of_ble_eq_true rfl, Nat.le_of_ble_eq_true rfl, Nat.le_of_ble_eq_true rfl, (xrecv_at (as := [.inl ((r : Int), (r : Int)), .inl ((i : Int), (i : Int))]) hw)⟩ ?_
        show yreach (ySt sc xm162) (yJm l D tA ex sc xm162) (_) (44, [(4, .inl (0, 0)), (0, .inr (.inr (1, 57))), (1, .inl ((r : Int), (r : Int))), (2, .inl ((i : Int), (i : Int))), (3, .inl (v, v))], [.inl (L[i], L[i]), .inr (.inr (1, 57))], w, 0, 0)
        refine yreach.at (S' := (47, [(4, .inl (0, 0)), (0, .inr (.inr (1, 57))), (1, .inl ((r : Int), (r : Int))), (2, .inl ((i : Int), (i : Int))), (3, .inl (v, v))], [], (w.set 57 (.inl (10, fs.set 2 (.inl (L[i], L[i]))))), 0, 0)) (q := _) rfl (by exact sy_put (ty := tyX10 2) hw hf2 rfl) ?_
        refine yreach.at (S' := (48, [(4, .inl (0, 0)), (0, .inr (.inr (1, 57))), (1, .inl ((r : Int), (r : Int))), (2, .inl ((i : Int), (i : Int))), (3, .inl (v, v))], [.inr (.inr (1, 57))], (w.set 57 (.inl (10, fs.set 2 (.inl (L[i], L[i]))))), 0, 0)) (q := _) rfl rfl ?_
        refine yreach.at (S' := (51, [(4, .inl (0, 0)), (0, .inr (.inr (1, 57))), (1, .inl ((r : Int), (r : Int))), (2, .inl ((i : Int), (i : Int))), (3, .inl (v, v))], [.inr (.inr (1, 60))], (w.set 57 (.inl (10, fs.set 2 (.inl (L[i], L[i]))))), 0, 0)) (q := _) rfl (sx_get hw' ge') ?_
        refine yreach.at (S' := (53, [(4, .inl (0, 0)), (0, .inr (.inr (1, 57))), (1, .inl ((r : Int), (r : Int))), (2, .inl ((i : Int), (i : Int))), (3, .inl (v, v))], [.inl (40, 40), .inr (.inr (1, 60))], (w.set 57 (.inl (10, fs.set 2 (.inl (L[i], L[i]))))), 0, 0)) (q := _) rfl rfl ?_
        refine yreach.at (S' := (54, [(4, .inl (0, 0)), (0, .inr (.inr (1, 57))), (1, .inl ((r : Int), (r : Int))), (2, .inl ((i : Int), (i : Int))), (3, .inl (v, v))], [.inl ((r : Int), (r : Int)), .inl (40, 40), .inr (.inr (1, 60))], (w.set 57 (.inl (10, fs.set 2 (.inl (L[i], L[i]))))), 0, 0)) (q := _) rfl rfl ?_
        refine yreach.at (S' := (55, [(4, .inl (0, 0)), (0, .inr (.inr (1, 57))), (1, .inl ((r : Int), (r : Int))), (2, .inl ((i : Int), (i : Int))), (3, .inl (v, v))], [.inl (((40 * r : Nat) : Int), ((40 * r : Nat) : Int)), .inr (.inr (1, 60))], (w.set 57 (.inl (10, fs.set 2 (.inl (L[i], L[i]))))), 0, 0)) (q := _) rfl (sx_bin rfl (z40 hr)) ?_
        refine yreach.at (S' := (56, [(4, .inl (0, 0)), (0, .inr (.inr (1, 57))), (1, .inl ((r : Int), (r : Int))), (2, .inl ((i : Int), (i : Int))), (3, .inl (v, v))], [.inl ((i : Int), (i : Int)), .inl (((40 * r : Nat) : Int), ((40 * r : Nat) : Int)), .inr (.inr (1, 60))], (w.set 57 (.inl (10, fs.set 2 (.inl (L[i], L[i]))))), 0, 0)) (q := _) rfl rfl ?_
        refine yreach.at (S' := (57, [(4, .inl (0, 0)), (0, .inr (.inr (1, 57))), (1, .inl ((r : Int), (r : Int))), (2, .inl ((i : Int), (i : Int))), (3, .inl (v, v))], [.inl (((40 * r + i : Nat) : Int), ((40 * r + i : Nat) : Int)), .inr (.inr (1, 60))], (w.set 57 (.inl (10, fs.set 2 (.inl (L[i], L[i]))))), 0, 0)) (q := _) rfl (sx_bin rfl (zadd (by omega) (by omega))) ?_
        refine yreach.at (S' := (58, [(4, .inl (0, 0)), (0, .inr (.inr (1, 57))), (1, .inl ((r : Int), (r : Int))), (2, .inl ((i : Int), (i : Int))), (3, .inl (v, v))], [.inl (v, v), .inl (((40 * r + i : Nat) : Int), ((40 * r + i : Nat) : Int)), .inr (.inr (1, 60))], (w.set 57 (.inl (10, fs.set 2 (.inl (L[i], L[i]))))), 0, 0)) (q := _) rfl rfl ?_
        refine yreach.at (S' := (59, [(4, .inl (0, 0)), (0, .inr (.inr (1, 57))), (1, .inl ((r : Int), (r : Int))), (2, .inl ((i : Int), (i : Int))), (3, .inl (v, v))], [], (List.set (α := XC) (w.set 57 (.inl (10, fs.set 2 (.inl (L[i], L[i]))))) 60 (.inr (0, es.set (40 * r + i) (.inl (v, v))))), 0, 0)) (q := _) rfl (by exact sx_iast a2' (zwrite (by omega))) ?_
        refine yreach.at (S' := (60, [(4, .inl (0, 0)), (0, .inr (.inr (1, 57))), (1, .inl ((r : Int), (r : Int))), (2, .inl ((i : Int), (i : Int))), (3, .inl (v, v))], [.inl (1, 1)], (List.set (α := XC) (w.set 57 (.inl (10, fs.set 2 (.inl (L[i], L[i]))))) 60 (.inr (0, es.set (40 * r + i) (.inl (v, v))))), 0, 0)) (q := _) rfl rfl ?_
        exact yreach.ret (q := (some (.inl (1, 1)), (List.set (α := XC) (w.set 57 (.inl (10, fs.set 2 (.inl (L[i], L[i]))))) 60 (.inr (0, es.set (40 * r + i) (.inl (v, v))))), 0, 0)) ((xstep_at rfl).trans rfl) rfl
      · rw [if_neg hh, if_neg hh]
        obtain ⟨w2, m2, hU2⟩ := zmeets (l := l) (D := D) (tA := tA) (ex := ex) (sc := sc) hU (v := 2) (by decide)
        refine ⟨w2, zex (j := 162) rfl (Nat.le_of_ble_eq_true rfl) ?_, hU2⟩
        refine yreach.at (S' := (1, [(0, .inr (.inr (1, 57))), (1, .inl ((r : Int), (r : Int))), (2, .inl (i, i)), (3, .inl (v, v))], [.inr (.inr (1, 57))], w, 0, 0)) (q := _) rfl rfl ?_
        refine yreach.at (S' := (2, [(0, .inr (.inr (1, 57))), (1, .inl ((r : Int), (r : Int))), (2, .inl (i, i)), (3, .inl (v, v))], [.inl ((r : Int), (r : Int)), .inr (.inr (1, 57))], w, 0, 0)) (q := _) rfl rfl ?_
        refine ycall_at (N := xm163) (ro := some (.inl (0, 0))) (w' := w) (recv := true) (i := .invokevirtual 165) (a := 163) (na := 2) (z := 0) rfl (fun _ => rfl) rfl (zask_row_y hU hr hS) ⟨Nat.le_of_ble_eq_true rfl, Nat.le_of_ble_eq_true rfl, Nat.le_of_ble_eq_true rfl, Nat.le_of_ble_eq_true rfl, Nat.le_of_ble_eq_true rfl, Nat.le_of_ble_eq_true rfl, (xrecv_at (as := [.inl ((r : Int), (r : Int))]) hw)⟩ ?_
        show yreach (ySt sc xm162) (yJm l D tA ex sc xm162) (_) (5, [(0, .inr (.inr (1, 57))), (1, .inl ((r : Int), (r : Int))), (2, .inl (i, i)), (3, .inl (v, v))], [.inl (0, 0)], w, 0, 0)
        refine yreach.at (S' := (7, [(4, .inl (0, 0)), (0, .inr (.inr (1, 57))), (1, .inl ((r : Int), (r : Int))), (2, .inl (i, i)), (3, .inl (v, v))], [], w, 0, 0)) (q := _) rfl rfl ?_
        refine yreach.at (S' := (9, [(4, .inl (0, 0)), (0, .inr (.inr (1, 57))), (1, .inl ((r : Int), (r : Int))), (2, .inl (i, i)), (3, .inl (v, v))], [.inl (0, 0)], w, 0, 0)) (q := _) rfl rfl ?_
        refine yreach.at (S' := (15, [(4, .inl (0, 0)), (0, .inr (.inr (1, 57))), (1, .inl ((r : Int), (r : Int))), (2, .inl (i, i)), (3, .inl (v, v))], [], w, 0, 0)) (q := _) rfl (sx_if (o := true) (zcmp xge_of (decide_eq_true (by omega)))) ?_
        refine yreach.at (S' := (16, [(4, .inl (0, 0)), (0, .inr (.inr (1, 57))), (1, .inl ((r : Int), (r : Int))), (2, .inl (i, i)), (3, .inl (v, v))], [.inl (i, i)], w, 0, 0)) (q := _) rfl rfl ?_
        refine yreach.at (S' := (17, [(4, .inl (0, 0)), (0, .inr (.inr (1, 57))), (1, .inl ((r : Int), (r : Int))), (2, .inl (i, i)), (3, .inl (v, v))], [.inl (0, 0), .inl (i, i)], w, 0, 0)) (q := _) rfl rfl ?_
        refine yreach.at (S' := (18, [(4, .inl (0, 0)), (0, .inr (.inr (1, 57))), (1, .inl ((r : Int), (r : Int))), (2, .inl (i, i)), (3, .inl (v, v))], [.inr (.inr (1, 57)), .inl (0, 0), .inl (i, i)], w, 0, 0)) (q := _) rfl rfl ?_
        refine yreach.at (S' := (21, [(4, .inl (0, 0)), (0, .inr (.inr (1, 57))), (1, .inl ((r : Int), (r : Int))), (2, .inl (i, i)), (3, .inl (v, v))], [.inr (.inr (1, 59)), .inl (0, 0), .inl (i, i)], w, 0, 0)) (q := _) rfl (sx_get hw g7) ?_
        refine yreach.at (S' := (22, [(4, .inl (0, 0)), (0, .inr (.inr (1, 57))), (1, .inl ((r : Int), (r : Int))), (2, .inl (i, i)), (3, .inl (v, v))], [.inl ((r : Int), (r : Int)), .inr (.inr (1, 59)), .inl (0, 0), .inl (i, i)], w, 0, 0)) (q := _) rfl rfl ?_
        refine yreach.at (S' := (23, [(4, .inl (0, 0)), (0, .inr (.inr (1, 57))), (1, .inl ((r : Int), (r : Int))), (2, .inl (i, i)), (3, .inl (v, v))], [.inl (z, z), .inl (0, 0), .inl (i, i)], w, 0, 0)) (q := _) rfl (sx_iald a1 (zread b1)) ?_
        refine yreach.at (S' := (24, [(4, .inl (0, 0)), (0, .inr (.inr (1, 57))), (1, .inl ((r : Int), (r : Int))), (2, .inl (i, i)), (3, .inl (v, v))], [.inl (1, 1), .inl (z, z), .inl (0, 0), .inl (i, i)], w, 0, 0)) (q := _) rfl rfl ?_
        refine yreach.at (S' := (25, [(4, .inl (0, 0)), (0, .inr (.inr (1, 57))), (1, .inl ((r : Int), (r : Int))), (2, .inl (i, i)), (3, .inl (v, v))], [.inl ((z - 1), (z - 1)), .inl (0, 0), .inl (i, i)], w, 0, 0)) (q := _) rfl (sx_isub (by omega)) ?_
        refine ycall_at (N := xm160) (ro := some (.inl (0, 0))) (w' := w) (recv := false) (i := .invokestatic 146) (a := 160) (na := 3) (z := 0) rfl (fun _ => rfl) rfl (zin_n (by have h1 := b2.1; omega)) ⟨Nat.le_of_ble_eq_true rfl, Nat.le_of_ble_eq_true rfl, Nat.le_of_ble_eq_true rfl, Nat.le_of_ble_eq_true rfl, Nat.le_of_ble_eq_true rfl, Nat.le_of_ble_eq_true rfl, rfl⟩ ?_
        show yreach (ySt sc xm162) (yJm l D tA ex sc xm162) (_) (28, [(4, .inl (0, 0)), (0, .inr (.inr (1, 57))), (1, .inl ((r : Int), (r : Int))), (2, .inl (i, i)), (3, .inl (v, v))], [.inl (0, 0)], w, 0, 0)
        refine yreach.at (S' := (31, [(4, .inl (0, 0)), (0, .inr (.inr (1, 57))), (1, .inl ((r : Int), (r : Int))), (2, .inl (i, i)), (3, .inl (v, v))], [], w, 0, 0)) (q := _) rfl (sx_if (o := false) (zcmp xcne_of (decide_eq_false (by omega)))) ?_
        refine yreach.at (S' := (32, [(4, .inl (0, 0)), (0, .inr (.inr (1, 57))), (1, .inl ((r : Int), (r : Int))), (2, .inl (i, i)), (3, .inl (v, v))], [.inr (.inr (1, 57))], w, 0, 0)) (q := _) rfl rfl ?_
        refine yreach.at (S' := (33, [(4, .inl (0, 0)), (0, .inr (.inr (1, 57))), (1, .inl ((r : Int), (r : Int))), (2, .inl (i, i)), (3, .inl (v, v))], [.inl (2, 2), .inr (.inr (1, 57))], w, 0, 0)) (q := _) rfl rfl ?_
        refine ycall_at (N := xm161) (ro := some (.inl (-3, -3))) (w' := w2) (recv := true) (i := .invokevirtual 158) (a := 161) (na := 2) (z := 0) rfl (fun _ => rfl) rfl m2 ⟨Nat.le_of_ble_eq_true rfl, Nat.le_of_ble_eq_true rfl, Nat.le_of_ble_eq_true rfl, Nat.le_of_ble_eq_true rfl, Nat.le_of_ble_eq_true rfl, Nat.le_of_ble_eq_true rfl, (xrecv_at (as := [.inl (2, 2)]) hw)⟩ ?_
        show yreach (ySt sc xm162) (yJm l D tA ex sc xm162) (_) (36, [(4, .inl (0, 0)), (0, .inr (.inr (1, 57))), (1, .inl ((r : Int), (r : Int))), (2, .inl (i, i)), (3, .inl (v, v))], [.inl (-3, -3)], w2, 0, 0)
        exact yreach.ret (q := (some (.inl (-3, -3)), w2, 0, 0)) ((xstep_at rfl).trans rfl) rfl
  · have n1 : a < 0 ∨ 6 ≤ a := by omega
    rw [show zLyA 6 0 T a i = -1 from if_pos n1, show zLyS 6 0 T a i v = T from if_pos n1]
    refine ⟨w, zex (j := 162) rfl (Nat.le_of_ble_eq_true rfl) ?_, hU⟩
    refine yreach.at (S' := (1, [(0, .inr (.inr (1, 57))), (1, .inl (a, a)), (2, .inl (i, i)), (3, .inl (v, v))], [.inr (.inr (1, 57))], w, 0, 0)) (q := _) rfl rfl ?_
    refine yreach.at (S' := (2, [(0, .inr (.inr (1, 57))), (1, .inl (a, a)), (2, .inl (i, i)), (3, .inl (v, v))], [.inl (a, a), .inr (.inr (1, 57))], w, 0, 0)) (q := _) rfl rfl ?_
    refine ycall_at (N := xm163) (ro := some (.inl (-1, -1))) (w' := w) (recv := true) (i := .invokevirtual 165) (a := 163) (na := 2) (z := 0) rfl (fun _ => rfl) rfl (zask_row_n ha) ⟨Nat.le_of_ble_eq_true rfl, Nat.le_of_ble_eq_true rfl, Nat.le_of_ble_eq_true rfl, Nat.le_of_ble_eq_true rfl, Nat.le_of_ble_eq_true rfl, Nat.le_of_ble_eq_true rfl, (xrecv_at (as := [.inl (a, a)]) hw)⟩ ?_
    show yreach (ySt sc xm162) (yJm l D tA ex sc xm162) (_) (5, [(0, .inr (.inr (1, 57))), (1, .inl (a, a)), (2, .inl (i, i)), (3, .inl (v, v))], [.inl (-1, -1)], w, 0, 0)
    refine yreach.at (S' := (7, [(4, .inl (-1, -1)), (0, .inr (.inr (1, 57))), (1, .inl (a, a)), (2, .inl (i, i)), (3, .inl (v, v))], [], w, 0, 0)) (q := _) rfl rfl ?_
    refine yreach.at (S' := (9, [(4, .inl (-1, -1)), (0, .inr (.inr (1, 57))), (1, .inl (a, a)), (2, .inl (i, i)), (3, .inl (v, v))], [.inl (-1, -1)], w, 0, 0)) (q := _) rfl rfl ?_
    refine yreach.at (S' := (12, [(4, .inl (-1, -1)), (0, .inr (.inr (1, 57))), (1, .inl (a, a)), (2, .inl (i, i)), (3, .inl (v, v))], [], w, 0, 0)) (q := _) rfl (sx_if (o := false) (zcmp xge_of (decide_eq_false (by omega)))) ?_
    refine yreach.at (S' := (14, [(4, .inl (-1, -1)), (0, .inr (.inr (1, 57))), (1, .inl (a, a)), (2, .inl (i, i)), (3, .inl (v, v))], [.inl (-1, -1)], w, 0, 0)) (q := _) rfl rfl ?_
    exact yreach.ret (q := (some (.inl (-1, -1)), w, 0, 0)) ((xstep_at rfl).trans rfl) rfl
set_option maxHeartbeats 4000000 in
theorem zm_put {ks : List Nat} {w : XW} {S T : ZS} (hU : zU ks w S T) {a i v : Int} (hi : yrg i) (hv : yrg v) : ∃ w', XMet l D vwCl (tysX tA) tA ex (xSTX ++ [sc]) xSV xNW xNF xTs xm171 [.inr (.inr (1, 57)), .inl (a, a), .inl (i, i), .inl (v, v)] w (some (.inl ((zPtA T a i), (zPtA T a i)))) w' ∧ zU ks w' S (zLyS 4 6 T a i (zb8 v)) := by
  obtain ⟨fs, hw, g7, g8, g9, g10, g11⟩ := zf57 hU.1 hU.2.1
  by_cases ha : 0 ≤ a ∧ a < 4
  · obtain ⟨r, rfl⟩ : ∃ r : Nat, a = (r : Int) := ⟨a.toNat, by omega⟩
    have hr : r < 4 := by omega
    have hM := hU.2.2.2
    obtain ⟨sz, es, a1, a2, a3, a4, a5⟩ := hM.2
    obtain ⟨z, b1, b2⟩ := a5 r hr
    have l1 := (List.getElem?_eq_some_iff.mp a1).1
    have l2 := (List.getElem?_eq_some_iff.mp a2).1
    have n0 : ¬ ((r : Int) < 0 ∨ 4 ≤ (r : Int)) := by omega
    have eA : zPtA T (r : Int) i = (match T (6 + r) with
      | none => -3
      | some L => if 0 ≤ i ∧ i < L.length then (xadd ((L[i.toNat]?).getD 0, (L[i.toNat]?).getD 0) (1000, 1000)).1 else -3) := if_neg n0
    have eS : zLyS 4 6 T (r : Int) i (zb8 v) = (match T (6 + r) with
      | none => T
      | some L => if 0 ≤ i ∧ i < L.length then zup T (6 + r) (some (L.set i.toNat (zb8 v))) else T) := if_neg n0
    rw [eA, eS]
    cases hS : T (6 + r) with
    | none =>
      obtain ⟨w2, m2, hU2⟩ := zask_text_m (l := l) (D := D) (tA := tA) (ex := ex) (sc := sc) hU hr hS
      refine ⟨w2, zex (j := 171) rfl (Nat.le_of_ble_eq_true rfl) ?_, hU2⟩
      refine yreach.at (S' := (1, [(0, .inr (.inr (1, 57))), (1, .inl ((r : Int), (r : Int))), (2, .inl (i, i)), (3, .inl (v, v))], [.inr (.inr (1, 57))], w, 0, 0)) (q := _) rfl rfl ?_
      refine yreach.at (S' := (2, [(0, .inr (.inr (1, 57))), (1, .inl ((r : Int), (r : Int))), (2, .inl (i, i)), (3, .inl (v, v))], [.inl ((r : Int), (r : Int)), .inr (.inr (1, 57))], w, 0, 0)) (q := _) rfl rfl ?_
      refine ycall_at (N := xm172) (ro := some (.inl (-3, -3))) (w' := w2) (recv := true) (i := .invokevirtual 175) (a := 172) (na := 2) (z := 0) rfl (fun _ => rfl) rfl m2 ⟨Nat.le_of_ble_eq_true rfl, Nat.le_of_ble_eq_true rfl, Nat.le_of_ble_eq_true rfl, Nat.le_of_ble_eq_true rfl, Nat.le_of_ble_eq_true rfl, Nat.le_of_ble_eq_true rfl, (xrecv_at (as := [.inl ((r : Int), (r : Int))]) hw)⟩ ?_
      show yreach (ySt sc xm171) (yJm l D tA ex sc xm171) (_) (5, [(0, .inr (.inr (1, 57))), (1, .inl ((r : Int), (r : Int))), (2, .inl (i, i)), (3, .inl (v, v))], [.inl (-3, -3)], w2, 0, 0)
      refine yreach.at (S' := (7, [(4, .inl (-3, -3)), (0, .inr (.inr (1, 57))), (1, .inl ((r : Int), (r : Int))), (2, .inl (i, i)), (3, .inl (v, v))], [], w2, 0, 0)) (q := _) rfl rfl ?_
      refine yreach.at (S' := (9, [(4, .inl (-3, -3)), (0, .inr (.inr (1, 57))), (1, .inl ((r : Int), (r : Int))), (2, .inl (i, i)), (3, .inl (v, v))], [.inl (-3, -3)], w2, 0, 0)) (q := _) rfl rfl ?_
      refine yreach.at (S' := (12, [(4, .inl (-3, -3)), (0, .inr (.inr (1, 57))), (1, .inl ((r : Int), (r : Int))), (2, .inl (i, i)), (3, .inl (v, v))], [], w2, 0, 0)) (q := _) rfl (sx_if (o := false) (zcmp xge_of (decide_eq_false (by omega)))) ?_
      refine yreach.at (S' := (14, [(4, .inl (-3, -3)), (0, .inr (.inr (1, 57))), (1, .inl ((r : Int), (r : Int))), (2, .inl (i, i)), (3, .inl (v, v))], [.inl (-3, -3)], w2, 0, 0)) (q := _) rfl rfl ?_
      exact yreach.ret (q := (some (.inl (-3, -3)), w2, 0, 0)) ((xstep_at rfl).trans rfl) rfl
    | some L =>
      rw [hS] at b2
      have hz : 0 ≤ z ∧ z ≤ 40 := by
        have h1 := b2.1
        have h2 := b2.2.1
        omega
      dsimp only
      by_cases hh : 0 ≤ i ∧ i < L.length
      · obtain ⟨i, rfl⟩ : ∃ u : Nat, i = (u : Int) := ⟨i.toNat, by omega⟩
        have hiL : i < L.length := by omega
        have hL40 := b2.2.1
        have hL1 := b2.1
        have hL : L[i]? = some L[i] := List.getElem?_eq_getElem hiL
        have he : es[40 * r + i]? = some (.inl (L[i], L[i])) := b2.2.2 i _ hL
        have hv := zb8_rg v
        rw [if_pos hh, if_pos hh]
        rw [show ((i : Nat) : Int).toNat = i from rfl, hL, Option.getD_some]
        have hH0 := hU.1
        have a2' := a2
        obtain ⟨y, y1, _⟩ := xadd_ex L[i] 1000
        rw [y1]
        refine ⟨(List.set (α := XC) w 63 (.inr (0, es.set (40 * r + i) (.inl ((zb8 v), (zb8 v)))))), zex (j := 171) rfl (Nat.le_of_ble_eq_true rfl) ?_, yheap_seta hH0 (hU.2.1.at rfl) (show yKD 36 = some yK_36 from rfl) a2' ⟨_, List.mem_cons_self, ytop_in hv⟩ rfl, hU.2.1, zCA_eq hU.2.2.1 (fun q h => by rw [List.getElem?_set_ne (by omega)]), zMB_ne hM.1 (by rw [List.getElem?_set_ne (by decide)]) (by rw [List.getElem?_set_ne (by decide)]) (by omega), zMB_up (w' := (List.set (α := XC) w 63 (.inr (0, es.set (40 * r + i) (.inl ((zb8 v), (zb8 v))))))) (s := r) (fun k hk hne => by
          obtain ⟨z, k1, k2⟩ := a5 k hk
          exact ⟨z, k1, zrep_eq k2 (fun j hj => List.getElem?_set_ne (by omega))⟩) (by rw [List.getElem?_set_ne (by decide)]; exact a1) (List.getElem?_set_self l2) a3 (by rw [List.length_set]; exact a4) ⟨z, b1, zrep_set b2 hiL (by omega)⟩⟩
        refine yreach.at (S' := (1, [(0, .inr (.inr (1, 57))), (1, .inl ((r : Int), (r : Int))), (2, .inl ((i : Int), (i : Int))), (3, .inl (v, v))], [.inr (.inr (1, 57))], w, 0, 0)) (q := _) rfl rfl ?_
        refine yreach.at (S' := (2, [(0, .inr (.inr (1, 57))), (1, .inl ((r : Int), (r : Int))), (2, .inl ((i : Int), (i : Int))), (3, .inl (v, v))], [.inl ((r : Int), (r : Int)), .inr (.inr (1, 57))], w, 0, 0)) (q := _) rfl rfl ?_
        refine ycall_at (N := xm172) (ro := some (.inl (0, 0))) (w' := w) (recv := true) (i := .invokevirtual 175) (a := 172) (na := 2) (z := 0) rfl (fun _ => rfl) rfl (zask_text_y hU hr hS) ⟨Nat.le_of_ble_eq_true rfl, Nat.le_of_ble_eq_true rfl, Nat.le_of_ble_eq_true rfl, Nat.le_of_ble_eq_true rfl, Nat.le_of_ble_eq_true rfl, Nat.le_of_ble_eq_true rfl, (xrecv_at (as := [.inl ((r : Int), (r : Int))]) hw)⟩ ?_
        show yreach (ySt sc xm171) (yJm l D tA ex sc xm171) (_) (5, [(0, .inr (.inr (1, 57))), (1, .inl ((r : Int), (r : Int))), (2, .inl ((i : Int), (i : Int))), (3, .inl (v, v))], [.inl (0, 0)], w, 0, 0)
        refine yreach.at (S' := (7, [(4, .inl (0, 0)), (0, .inr (.inr (1, 57))), (1, .inl ((r : Int), (r : Int))), (2, .inl ((i : Int), (i : Int))), (3, .inl (v, v))], [], w, 0, 0)) (q := _) rfl rfl ?_
        refine yreach.at (S' := (9, [(4, .inl (0, 0)), (0, .inr (.inr (1, 57))), (1, .inl ((r : Int), (r : Int))), (2, .inl ((i : Int), (i : Int))), (3, .inl (v, v))], [.inl (0, 0)], w, 0, 0)) (q := _) rfl rfl ?_
        refine yreach.at (S' := (15, [(4, .inl (0, 0)), (0, .inr (.inr (1, 57))), (1, .inl ((r : Int), (r : Int))), (2, .inl ((i : Int), (i : Int))), (3, .inl (v, v))], [], w, 0, 0)) (q := _) rfl (sx_if (o := true) (zcmp xge_of (decide_eq_true (by omega)))) ?_
        refine yreach.at (S' := (16, [(4, .inl (0, 0)), (0, .inr (.inr (1, 57))), (1, .inl ((r : Int), (r : Int))), (2, .inl ((i : Int), (i : Int))), (3, .inl (v, v))], [.inl ((i : Int), (i : Int))], w, 0, 0)) (q := _) rfl rfl ?_
        refine yreach.at (S' := (17, [(4, .inl (0, 0)), (0, .inr (.inr (1, 57))), (1, .inl ((r : Int), (r : Int))), (2, .inl ((i : Int), (i : Int))), (3, .inl (v, v))], [.inl (0, 0), .inl ((i : Int), (i : Int))], w, 0, 0)) (q := _) rfl rfl ?_
        refine yreach.at (S' := (18, [(4, .inl (0, 0)), (0, .inr (.inr (1, 57))), (1, .inl ((r : Int), (r : Int))), (2, .inl ((i : Int), (i : Int))), (3, .inl (v, v))], [.inr (.inr (1, 57)), .inl (0, 0), .inl ((i : Int), (i : Int))], w, 0, 0)) (q := _) rfl rfl ?_
        refine yreach.at (S' := (21, [(4, .inl (0, 0)), (0, .inr (.inr (1, 57))), (1, .inl ((r : Int), (r : Int))), (2, .inl ((i : Int), (i : Int))), (3, .inl (v, v))], [.inr (.inr (1, 62)), .inl (0, 0), .inl ((i : Int), (i : Int))], w, 0, 0)) (q := _) rfl (sx_get hw g10) ?_
        refine yreach.at (S' := (22, [(4, .inl (0, 0)), (0, .inr (.inr (1, 57))), (1, .inl ((r : Int), (r : Int))), (2, .inl ((i : Int), (i : Int))), (3, .inl (v, v))], [.inl ((r : Int), (r : Int)), .inr (.inr (1, 62)), .inl (0, 0), .inl ((i : Int), (i : Int))], w, 0, 0)) (q := _) rfl rfl ?_
        refine yreach.at (S' := (23, [(4, .inl (0, 0)), (0, .inr (.inr (1, 57))), (1, .inl ((r : Int), (r : Int))), (2, .inl ((i : Int), (i : Int))), (3, .inl (v, v))], [.inl (z, z), .inl (0, 0), .inl ((i : Int), (i : Int))], w, 0, 0)) (q := _) rfl (sx_iald a1 (zread b1)) ?_
        refine yreach.at (S' := (24, [(4, .inl (0, 0)), (0, .inr (.inr (1, 57))), (1, .inl ((r : Int), (r : Int))), (2, .inl ((i : Int), (i : Int))), (3, .inl (v, v))], [.inl (1, 1), .inl (z, z), .inl (0, 0), .inl ((i : Int), (i : Int))], w, 0, 0)) (q := _) rfl rfl ?_
        refine yreach.at (S' := (25, [(4, .inl (0, 0)), (0, .inr (.inr (1, 57))), (1, .inl ((r : Int), (r : Int))), (2, .inl ((i : Int), (i : Int))), (3, .inl (v, v))], [.inl ((z - 1), (z - 1)), .inl (0, 0), .inl ((i : Int), (i : Int))], w, 0, 0)) (q := _) rfl (sx_isub (by omega)) ?_
        refine ycall_at (N := xm160) (ro := some (.inl (1, 1))) (w' := w) (recv := false) (i := .invokestatic 146) (a := 160) (na := 3) (z := 0) rfl (fun _ => rfl) rfl (zin_y (by have h1 := b2.1; omega)) ⟨Nat.le_of_ble_eq_true rfl, Nat.le_of_ble_eq_true rfl, Nat.le_of_ble_eq_true rfl, Nat.le_of_ble_eq_true rfl, Nat.le_of_ble_eq_true rfl, Nat.le_of_ble_eq_true rfl, rfl⟩ ?_
        show yreach (ySt sc xm171) (yJm l D tA ex sc xm171) (_) (28, [(4, .inl (0, 0)), (0, .inr (.inr (1, 57))), (1, .inl ((r : Int), (r : Int))), (2, .inl ((i : Int), (i : Int))), (3, .inl (v, v))], [.inl (1, 1)], w, 0, 0)
        refine yreach.at (S' := (37, [(4, .inl (0, 0)), (0, .inr (.inr (1, 57))), (1, .inl ((r : Int), (r : Int))), (2, .inl ((i : Int), (i : Int))), (3, .inl (v, v))], [], w, 0, 0)) (q := _) rfl (sx_if (o := true) (zcmp xcne_of (decide_eq_true (by omega)))) ?_
        refine yreach.at (S' := (38, [(4, .inl (0, 0)), (0, .inr (.inr (1, 57))), (1, .inl ((r : Int), (r : Int))), (2, .inl ((i : Int), (i : Int))), (3, .inl (v, v))], [.inr (.inr (1, 57))], w, 0, 0)) (q := _) rfl rfl ?_
        refine yreach.at (S' := (41, [(4, .inl (0, 0)), (0, .inr (.inr (1, 57))), (1, .inl ((r : Int), (r : Int))), (2, .inl ((i : Int), (i : Int))), (3, .inl (v, v))], [.inr (.inr (1, 63))], w, 0, 0)) (q := _) rfl (sx_get hw g11) ?_
        refine yreach.at (S' := (43, [(4, .inl (0, 0)), (0, .inr (.inr (1, 57))), (1, .inl ((r : Int), (r : Int))), (2, .inl ((i : Int), (i : Int))), (3, .inl (v, v))], [.inl (40, 40), .inr (.inr (1, 63))], w, 0, 0)) (q := _) rfl rfl ?_
        refine yreach.at (S' := (44, [(4, .inl (0, 0)), (0, .inr (.inr (1, 57))), (1, .inl ((r : Int), (r : Int))), (2, .inl ((i : Int), (i : Int))), (3, .inl (v, v))], [.inl ((r : Int), (r : Int)), .inl (40, 40), .inr (.inr (1, 63))], w, 0, 0)) (q := _) rfl rfl ?_
        refine yreach.at (S' := (45, [(4, .inl (0, 0)), (0, .inr (.inr (1, 57))), (1, .inl ((r : Int), (r : Int))), (2, .inl ((i : Int), (i : Int))), (3, .inl (v, v))], [.inl (((40 * r : Nat) : Int), ((40 * r : Nat) : Int)), .inr (.inr (1, 63))], w, 0, 0)) (q := _) rfl (sx_bin rfl (z40 (by omega))) ?_
        refine yreach.at (S' := (46, [(4, .inl (0, 0)), (0, .inr (.inr (1, 57))), (1, .inl ((r : Int), (r : Int))), (2, .inl ((i : Int), (i : Int))), (3, .inl (v, v))], [.inl ((i : Int), (i : Int)), .inl (((40 * r : Nat) : Int), ((40 * r : Nat) : Int)), .inr (.inr (1, 63))], w, 0, 0)) (q := _) rfl rfl ?_
        refine yreach.at (S' := (47, [(4, .inl (0, 0)), (0, .inr (.inr (1, 57))), (1, .inl ((r : Int), (r : Int))), (2, .inl ((i : Int), (i : Int))), (3, .inl (v, v))], [.inl (((40 * r + i : Nat) : Int), ((40 * r + i : Nat) : Int)), .inr (.inr (1, 63))], w, 0, 0)) (q := _) rfl (sx_bin rfl (zadd (by omega) (by omega))) ?_
        refine yreach.at (S' := (48, [(4, .inl (0, 0)), (0, .inr (.inr (1, 57))), (1, .inl ((r : Int), (r : Int))), (2, .inl ((i : Int), (i : Int))), (3, .inl (v, v))], [.inl (L[i], L[i])], w, 0, 0)) (q := _) rfl (sx_iald a2 (zread he)) ?_
        refine yreach.at (S' := (50, [(5, .inl (L[i], L[i])), (4, .inl (0, 0)), (0, .inr (.inr (1, 57))), (1, .inl ((r : Int), (r : Int))), (2, .inl ((i : Int), (i : Int))), (3, .inl (v, v))], [], w, 0, 0)) (q := _) rfl rfl ?_
        refine yreach.at (S' := (51, [(5, .inl (L[i], L[i])), (4, .inl (0, 0)), (0, .inr (.inr (1, 57))), (1, .inl ((r : Int), (r : Int))), (2, .inl ((i : Int), (i : Int))), (3, .inl (v, v))], [.inr (.inr (1, 57))], w, 0, 0)) (q := _) rfl rfl ?_
        refine yreach.at (S' := (54, [(5, .inl (L[i], L[i])), (4, .inl (0, 0)), (0, .inr (.inr (1, 57))), (1, .inl ((r : Int), (r : Int))), (2, .inl ((i : Int), (i : Int))), (3, .inl (v, v))], [.inr (.inr (1, 63))], w, 0, 0)) (q := _) rfl (sx_get hw g11) ?_
        refine yreach.at (S' := (56, [(5, .inl (L[i], L[i])), (4, .inl (0, 0)), (0, .inr (.inr (1, 57))), (1, .inl ((r : Int), (r : Int))), (2, .inl ((i : Int), (i : Int))), (3, .inl (v, v))], [.inl (40, 40), .inr (.inr (1, 63))], w, 0, 0)) (q := _) rfl rfl ?_
        refine yreach.at (S' := (57, [(5, .inl (L[i], L[i])), (4, .inl (0, 0)), (0, .inr (.inr (1, 57))), (1, .inl ((r : Int), (r : Int))), (2, .inl ((i : Int), (i : Int))), (3, .inl (v, v))], [.inl ((r : Int), (r : Int)), .inl (40, 40), .inr (.inr (1, 63))], w, 0, 0)) (q := _) rfl rfl ?_
        refine yreach.at (S' := (58, [(5, .inl (L[i], L[i])), (4, .inl (0, 0)), (0, .inr (.inr (1, 57))), (1, .inl ((r : Int), (r : Int))), (2, .inl ((i : Int), (i : Int))), (3, .inl (v, v))], [.inl (((40 * r : Nat) : Int), ((40 * r : Nat) : Int)), .inr (.inr (1, 63))], w, 0, 0)) (q := _) rfl (sx_bin rfl (z40 (by omega))) ?_
        refine yreach.at (S' := (59, [(5, .inl (L[i], L[i])), (4, .inl (0, 0)), (0, .inr (.inr (1, 57))), (1, .inl ((r : Int), (r : Int))), (2, .inl ((i : Int), (i : Int))), (3, .inl (v, v))], [.inl ((i : Int), (i : Int)), .inl (((40 * r : Nat) : Int), ((40 * r : Nat) : Int)), .inr (.inr (1, 63))], w, 0, 0)) (q := _) rfl rfl ?_
        refine yreach.at (S' := (60, [(5, .inl (L[i], L[i])), (4, .inl (0, 0)), (0, .inr (.inr (1, 57))), (1, .inl ((r : Int), (r : Int))), (2, .inl ((i : Int), (i : Int))), (3, .inl (v, v))], [.inl (((40 * r + i : Nat) : Int), ((40 * r + i : Nat) : Int)), .inr (.inr (1, 63))], w, 0, 0)) (q := _) rfl (sx_bin rfl (zadd (by omega) (by omega))) ?_
        refine yreach.at (S' := (61, [(5, .inl (L[i], L[i])), (4, .inl (0, 0)), (0, .inr (.inr (1, 57))), (1, .inl ((r : Int), (r : Int))), (2, .inl ((i : Int), (i : Int))), (3, .inl (v, v))], [.inl (v, v), .inl (((40 * r + i : Nat) : Int), ((40 * r + i : Nat) : Int)), .inr (.inr (1, 63))], w, 0, 0)) (q := _) rfl rfl ?_
        refine yreach.at (S' := (62, [(5, .inl (L[i], L[i])), (4, .inl (0, 0)), (0, .inr (.inr (1, 57))), (1, .inl ((r : Int), (r : Int))), (2, .inl ((i : Int), (i : Int))), (3, .inl (v, v))], [.inl ((zb8 v), (zb8 v)), .inl (((40 * r + i : Nat) : Int), ((40 * r + i : Nat) : Int)), .inr (.inr (1, 63))], w, 0, 0)) (q := _) rfl (by
          show (some (.inl (62, _, .inl (xe1 (fun x => x.toInt8.toInt32) (v, v)) :: _, _, 0, 0)) : Option XR) = _
          rw [zb8_e]) ?_
        refine yreach.at (S' := (63, [(5, .inl (L[i], L[i])), (4, .inl (0, 0)), (0, .inr (.inr (1, 57))), (1, .inl ((r : Int), (r : Int))), (2, .inl ((i : Int), (i : Int))), (3, .inl (v, v))], [], (List.set (α := XC) w 63 (.inr (0, es.set (40 * r + i) (.inl ((zb8 v), (zb8 v)))))), 0, 0)) (q := _) rfl (by exact sx_iast a2 (zwrite (by omega))) ?_
        refine yreach.at (S' := (65, [(5, .inl (L[i], L[i])), (4, .inl (0, 0)), (0, .inr (.inr (1, 57))), (1, .inl ((r : Int), (r : Int))), (2, .inl ((i : Int), (i : Int))), (3, .inl (v, v))], [.inl (L[i], L[i])], (List.set (α := XC) w 63 (.inr (0, es.set (40 * r + i) (.inl ((zb8 v), (zb8 v)))))), 0, 0)) (q := _) rfl rfl ?_
        refine yreach.at (S' := (68, [(5, .inl (L[i], L[i])), (4, .inl (0, 0)), (0, .inr (.inr (1, 57))), (1, .inl ((r : Int), (r : Int))), (2, .inl ((i : Int), (i : Int))), (3, .inl (v, v))], [.inl (1000, 1000), .inl (L[i], L[i])], (List.set (α := XC) w 63 (.inr (0, es.set (40 * r + i) (.inl ((zb8 v), (zb8 v)))))), 0, 0)) (q := _) rfl rfl ?_
        refine yreach.at (S' := (69, [(5, .inl (L[i], L[i])), (4, .inl (0, 0)), (0, .inr (.inr (1, 57))), (1, .inl ((r : Int), (r : Int))), (2, .inl ((i : Int), (i : Int))), (3, .inl (v, v))], [.inl (y, y)], (List.set (α := XC) w 63 (.inr (0, es.set (40 * r + i) (.inl ((zb8 v), (zb8 v)))))), 0, 0)) (q := _) rfl (sx_bin rfl y1) ?_
        exact yreach.ret (q := (some (.inl (y, y)), (List.set (α := XC) w 63 (.inr (0, es.set (40 * r + i) (.inl ((zb8 v), (zb8 v)))))), 0, 0)) ((xstep_at rfl).trans rfl) rfl
      · rw [if_neg hh, if_neg hh]
        obtain ⟨w2, m2, hU2⟩ := zmeets (l := l) (D := D) (tA := tA) (ex := ex) (sc := sc) hU (v := 2) (by decide)
        refine ⟨w2, zex (j := 171) rfl (Nat.le_of_ble_eq_true rfl) ?_, hU2⟩
        refine yreach.at (S' := (1, [(0, .inr (.inr (1, 57))), (1, .inl ((r : Int), (r : Int))), (2, .inl (i, i)), (3, .inl (v, v))], [.inr (.inr (1, 57))], w, 0, 0)) (q := _) rfl rfl ?_
        refine yreach.at (S' := (2, [(0, .inr (.inr (1, 57))), (1, .inl ((r : Int), (r : Int))), (2, .inl (i, i)), (3, .inl (v, v))], [.inl ((r : Int), (r : Int)), .inr (.inr (1, 57))], w, 0, 0)) (q := _) rfl rfl ?_
        refine ycall_at (N := xm172) (ro := some (.inl (0, 0))) (w' := w) (recv := true) (i := .invokevirtual 175) (a := 172) (na := 2) (z := 0) rfl (fun _ => rfl) rfl (zask_text_y hU hr hS) ⟨Nat.le_of_ble_eq_true rfl, Nat.le_of_ble_eq_true rfl, Nat.le_of_ble_eq_true rfl, Nat.le_of_ble_eq_true rfl, Nat.le_of_ble_eq_true rfl, Nat.le_of_ble_eq_true rfl, (xrecv_at (as := [.inl ((r : Int), (r : Int))]) hw)⟩ ?_
        show yreach (ySt sc xm171) (yJm l D tA ex sc xm171) (_) (5, [(0, .inr (.inr (1, 57))), (1, .inl ((r : Int), (r : Int))), (2, .inl (i, i)), (3, .inl (v, v))], [.inl (0, 0)], w, 0, 0)
        refine yreach.at (S' := (7, [(4, .inl (0, 0)), (0, .inr (.inr (1, 57))), (1, .inl ((r : Int), (r : Int))), (2, .inl (i, i)), (3, .inl (v, v))], [], w, 0, 0)) (q := _) rfl rfl ?_
        refine yreach.at (S' := (9, [(4, .inl (0, 0)), (0, .inr (.inr (1, 57))), (1, .inl ((r : Int), (r : Int))), (2, .inl (i, i)), (3, .inl (v, v))], [.inl (0, 0)], w, 0, 0)) (q := _) rfl rfl ?_
        refine yreach.at (S' := (15, [(4, .inl (0, 0)), (0, .inr (.inr (1, 57))), (1, .inl ((r : Int), (r : Int))), (2, .inl (i, i)), (3, .inl (v, v))], [], w, 0, 0)) (q := _) rfl (sx_if (o := true) (zcmp xge_of (decide_eq_true (by omega)))) ?_
        refine yreach.at (S' := (16, [(4, .inl (0, 0)), (0, .inr (.inr (1, 57))), (1, .inl ((r : Int), (r : Int))), (2, .inl (i, i)), (3, .inl (v, v))], [.inl (i, i)], w, 0, 0)) (q := _) rfl rfl ?_
        refine yreach.at (S' := (17, [(4, .inl (0, 0)), (0, .inr (.inr (1, 57))), (1, .inl ((r : Int), (r : Int))), (2, .inl (i, i)), (3, .inl (v, v))], [.inl (0, 0), .inl (i, i)], w, 0, 0)) (q := _) rfl rfl ?_
        refine yreach.at (S' := (18, [(4, .inl (0, 0)), (0, .inr (.inr (1, 57))), (1, .inl ((r : Int), (r : Int))), (2, .inl (i, i)), (3, .inl (v, v))], [.inr (.inr (1, 57)), .inl (0, 0), .inl (i, i)], w, 0, 0)) (q := _) rfl rfl ?_
        refine yreach.at (S' := (21, [(4, .inl (0, 0)), (0, .inr (.inr (1, 57))), (1, .inl ((r : Int), (r : Int))), (2, .inl (i, i)), (3, .inl (v, v))], [.inr (.inr (1, 62)), .inl (0, 0), .inl (i, i)], w, 0, 0)) (q := _) rfl (sx_get hw g10) ?_
        refine yreach.at (S' := (22, [(4, .inl (0, 0)), (0, .inr (.inr (1, 57))), (1, .inl ((r : Int), (r : Int))), (2, .inl (i, i)), (3, .inl (v, v))], [.inl ((r : Int), (r : Int)), .inr (.inr (1, 62)), .inl (0, 0), .inl (i, i)], w, 0, 0)) (q := _) rfl rfl ?_
        refine yreach.at (S' := (23, [(4, .inl (0, 0)), (0, .inr (.inr (1, 57))), (1, .inl ((r : Int), (r : Int))), (2, .inl (i, i)), (3, .inl (v, v))], [.inl (z, z), .inl (0, 0), .inl (i, i)], w, 0, 0)) (q := _) rfl (sx_iald a1 (zread b1)) ?_
        refine yreach.at (S' := (24, [(4, .inl (0, 0)), (0, .inr (.inr (1, 57))), (1, .inl ((r : Int), (r : Int))), (2, .inl (i, i)), (3, .inl (v, v))], [.inl (1, 1), .inl (z, z), .inl (0, 0), .inl (i, i)], w, 0, 0)) (q := _) rfl rfl ?_
        refine yreach.at (S' := (25, [(4, .inl (0, 0)), (0, .inr (.inr (1, 57))), (1, .inl ((r : Int), (r : Int))), (2, .inl (i, i)), (3, .inl (v, v))], [.inl ((z - 1), (z - 1)), .inl (0, 0), .inl (i, i)], w, 0, 0)) (q := _) rfl (sx_isub (by omega)) ?_
        refine ycall_at (N := xm160) (ro := some (.inl (0, 0))) (w' := w) (recv := false) (i := .invokestatic 146) (a := 160) (na := 3) (z := 0) rfl (fun _ => rfl) rfl (zin_n (by have h1 := b2.1; omega)) ⟨Nat.le_of_ble_eq_true rfl, Nat.le_of_ble_eq_true rfl, Nat.le_of_ble_eq_true rfl, Nat.le_of_ble_eq_true rfl, Nat.le_of_ble_eq_true rfl, Nat.le_of_ble_eq_true rfl, rfl⟩ ?_
        show yreach (ySt sc xm171) (yJm l D tA ex sc xm171) (_) (28, [(4, .inl (0, 0)), (0, .inr (.inr (1, 57))), (1, .inl ((r : Int), (r : Int))), (2, .inl (i, i)), (3, .inl (v, v))], [.inl (0, 0)], w, 0, 0)
        refine yreach.at (S' := (31, [(4, .inl (0, 0)), (0, .inr (.inr (1, 57))), (1, .inl ((r : Int), (r : Int))), (2, .inl (i, i)), (3, .inl (v, v))], [], w, 0, 0)) (q := _) rfl (sx_if (o := false) (zcmp xcne_of (decide_eq_false (by omega)))) ?_
        refine yreach.at (S' := (32, [(4, .inl (0, 0)), (0, .inr (.inr (1, 57))), (1, .inl ((r : Int), (r : Int))), (2, .inl (i, i)), (3, .inl (v, v))], [.inr (.inr (1, 57))], w, 0, 0)) (q := _) rfl rfl ?_
        refine yreach.at (S' := (33, [(4, .inl (0, 0)), (0, .inr (.inr (1, 57))), (1, .inl ((r : Int), (r : Int))), (2, .inl (i, i)), (3, .inl (v, v))], [.inl (2, 2), .inr (.inr (1, 57))], w, 0, 0)) (q := _) rfl rfl ?_
        refine ycall_at (N := xm161) (ro := some (.inl (-3, -3))) (w' := w2) (recv := true) (i := .invokevirtual 158) (a := 161) (na := 2) (z := 0) rfl (fun _ => rfl) rfl m2 ⟨Nat.le_of_ble_eq_true rfl, Nat.le_of_ble_eq_true rfl, Nat.le_of_ble_eq_true rfl, Nat.le_of_ble_eq_true rfl, Nat.le_of_ble_eq_true rfl, Nat.le_of_ble_eq_true rfl, (xrecv_at (as := [.inl (2, 2)]) hw)⟩ ?_
        show yreach (ySt sc xm171) (yJm l D tA ex sc xm171) (_) (36, [(4, .inl (0, 0)), (0, .inr (.inr (1, 57))), (1, .inl ((r : Int), (r : Int))), (2, .inl (i, i)), (3, .inl (v, v))], [.inl (-3, -3)], w2, 0, 0)
        exact yreach.ret (q := (some (.inl (-3, -3)), w2, 0, 0)) ((xstep_at rfl).trans rfl) rfl
  · have n1 : a < 0 ∨ 4 ≤ a := by omega
    rw [show zPtA T a i = -1 from if_pos n1, show zLyS 4 6 T a i (zb8 v) = T from if_pos n1]
    refine ⟨w, zex (j := 171) rfl (Nat.le_of_ble_eq_true rfl) ?_, hU⟩
    refine yreach.at (S' := (1, [(0, .inr (.inr (1, 57))), (1, .inl (a, a)), (2, .inl (i, i)), (3, .inl (v, v))], [.inr (.inr (1, 57))], w, 0, 0)) (q := _) rfl rfl ?_
    refine yreach.at (S' := (2, [(0, .inr (.inr (1, 57))), (1, .inl (a, a)), (2, .inl (i, i)), (3, .inl (v, v))], [.inl (a, a), .inr (.inr (1, 57))], w, 0, 0)) (q := _) rfl rfl ?_
    refine ycall_at (N := xm172) (ro := some (.inl (-1, -1))) (w' := w) (recv := true) (i := .invokevirtual 175) (a := 172) (na := 2) (z := 0) rfl (fun _ => rfl) rfl (zask_text_n ha) ⟨Nat.le_of_ble_eq_true rfl, Nat.le_of_ble_eq_true rfl, Nat.le_of_ble_eq_true rfl, Nat.le_of_ble_eq_true rfl, Nat.le_of_ble_eq_true rfl, Nat.le_of_ble_eq_true rfl, (xrecv_at (as := [.inl (a, a)]) hw)⟩ ?_
    show yreach (ySt sc xm171) (yJm l D tA ex sc xm171) (_) (5, [(0, .inr (.inr (1, 57))), (1, .inl (a, a)), (2, .inl (i, i)), (3, .inl (v, v))], [.inl (-1, -1)], w, 0, 0)
    refine yreach.at (S' := (7, [(4, .inl (-1, -1)), (0, .inr (.inr (1, 57))), (1, .inl (a, a)), (2, .inl (i, i)), (3, .inl (v, v))], [], w, 0, 0)) (q := _) rfl rfl ?_
    refine yreach.at (S' := (9, [(4, .inl (-1, -1)), (0, .inr (.inr (1, 57))), (1, .inl (a, a)), (2, .inl (i, i)), (3, .inl (v, v))], [.inl (-1, -1)], w, 0, 0)) (q := _) rfl rfl ?_
    refine yreach.at (S' := (12, [(4, .inl (-1, -1)), (0, .inr (.inr (1, 57))), (1, .inl (a, a)), (2, .inl (i, i)), (3, .inl (v, v))], [], w, 0, 0)) (q := _) rfl (sx_if (o := false) (zcmp xge_of (decide_eq_false (by omega)))) ?_
    refine yreach.at (S' := (14, [(4, .inl (-1, -1)), (0, .inr (.inr (1, 57))), (1, .inl (a, a)), (2, .inl (i, i)), (3, .inl (v, v))], [.inl (-1, -1)], w, 0, 0)) (q := _) rfl rfl ?_
    exact yreach.ret (q := (some (.inl (-1, -1)), w, 0, 0)) ((xstep_at rfl).trans rfl) rfl
set_option maxHeartbeats 4000000 in
theorem zm_tear {ks : List Nat} {w : XW} {S T : ZS} (hU : zU ks w S T) {a : Int} : ∃ w', XMet l D vwCl (tysX tA) tA ex (xSTX ++ [sc]) xSV xNW xNF xTs xm165 [.inr (.inr (1, 57)), .inl (a, a)] w (some (.inl ((zTrA T a), (zTrA T a)))) w' ∧ zU ks w' S (zTrS T a) := by
  obtain ⟨fs, hw, g7, g8, g9, g10, g11⟩ := zf57 hU.1 hU.2.1
  by_cases ha : 0 ≤ a ∧ a < 6
  · obtain ⟨r, rfl⟩ : ∃ r : Nat, a = (r : Int) := ⟨a.toNat, by omega⟩
    have hr : r < 6 := by omega
    have hM := hU.2.2.2
    obtain ⟨sz, es, a1, a2, a3, a4, a5⟩ := hM.1
    obtain ⟨z, b1, b2⟩ := a5 r hr
    have l1 := (List.getElem?_eq_some_iff.mp a1).1
    have l2 := (List.getElem?_eq_some_iff.mp a2).1
    have n0 : ¬ ((r : Int) < 0 ∨ 6 ≤ (r : Int)) := by omega
    have eA : zTrA T (r : Int) = (match T r with
      | none => -3
      | some L => 1) := if_neg n0
    have eS : zTrS T (r : Int) = (match T r with
      | none => T
      | some L => zup T r none) := if_neg n0
    rw [eA, eS]
    have b2 : zrep (T r) z es (40 * r) := by
      rw [Nat.zero_add] at b2
      exact b2
    cases hS : T r with
    | none =>
      obtain ⟨w2, m2, hU2⟩ := zask_row_m (l := l) (D := D) (tA := tA) (ex := ex) (sc := sc) hU hr (by rw [Nat.zero_add]; exact hS)
      refine ⟨w2, zex (j := 165) rfl (Nat.le_of_ble_eq_true rfl) ?_, hU2⟩
      refine yreach.at (S' := (1, [(0, .inr (.inr (1, 57))), (1, .inl ((r : Int), (r : Int)))], [.inr (.inr (1, 57))], w, 0, 0)) (q := _) rfl rfl ?_
      refine yreach.at (S' := (2, [(0, .inr (.inr (1, 57))), (1, .inl ((r : Int), (r : Int)))], [.inl ((r : Int), (r : Int)), .inr (.inr (1, 57))], w, 0, 0)) (q := _) rfl rfl ?_
      refine ycall_at (N := xm163) (ro := some (.inl (-3, -3))) (w' := w2) (recv := true) (i := .invokevirtual 165) (a := 163) (na := 2) (z := 0) rfl (fun _ => rfl) rfl m2 ⟨Nat.le_of_ble_eq_true rfl, Nat.le_of_ble_eq_true rfl, Nat.le_of_ble_eq_true rfl, Nat.le_of_ble_eq_true rfl, Nat.le_of_ble_eq_true rfl, Nat.le_of_ble_eq_true rfl, (xrecv_at (as := [.inl ((r : Int), (r : Int))]) hw)⟩ ?_
      show yreach (ySt sc xm165) (yJm l D tA ex sc xm165) (_) (5, [(0, .inr (.inr (1, 57))), (1, .inl ((r : Int), (r : Int)))], [.inl (-3, -3)], w2, 0, 0)
      refine yreach.at (S' := (6, [(2, .inl (-3, -3)), (0, .inr (.inr (1, 57))), (1, .inl ((r : Int), (r : Int)))], [], w2, 0, 0)) (q := _) rfl rfl ?_
      refine yreach.at (S' := (7, [(2, .inl (-3, -3)), (0, .inr (.inr (1, 57))), (1, .inl ((r : Int), (r : Int)))], [.inl (-3, -3)], w2, 0, 0)) (q := _) rfl rfl ?_
      refine yreach.at (S' := (10, [(2, .inl (-3, -3)), (0, .inr (.inr (1, 57))), (1, .inl ((r : Int), (r : Int)))], [], w2, 0, 0)) (q := _) rfl (sx_if (o := false) (zcmp xge_of (decide_eq_false (by omega)))) ?_
      refine yreach.at (S' := (11, [(2, .inl (-3, -3)), (0, .inr (.inr (1, 57))), (1, .inl ((r : Int), (r : Int)))], [.inl (-3, -3)], w2, 0, 0)) (q := _) rfl rfl ?_
      exact yreach.ret (q := (some (.inl (-3, -3)), w2, 0, 0)) ((xstep_at rfl).trans rfl) rfl
    | some L =>
      rw [hS] at b2
      have hz : 0 ≤ z ∧ z ≤ 40 := by
        have h1 := b2.1
        have h2 := b2.2.1
        omega
      show ∃ w', _ ∧ zU ks w' S (zup T r none)
      refine ⟨(w.set 59 (.inr (0, sz.set r (.inl (-9, -9))))), zex (j := 165) rfl (Nat.le_of_ble_eq_true rfl) ?_, yheap_seta hU.1 (hU.2.1.at rfl) (show yKD 32 = some yK_32 from rfl) a1 (j := r) ⟨_, List.mem_cons_self, -9, rfl, by decide, by decide, by decide, by decide⟩ rfl, hU.2.1, zCA_eq hU.2.2.1 (fun i h => by rw [List.getElem?_set_ne (by omega)]), (by
        have h5 := zMB_up (w' := (w.set 59 (.inr (0, sz.set r (.inl (-9, -9)))))) (i := 59) (j := 60) (base := 0) (B := 6) (s := r) (o := none) (fun k hk hne => by
          obtain ⟨z, k1, k2⟩ := a5 k hk
          exact ⟨z, by rw [List.getElem?_set_ne (fun e => hne e.symm)]; exact k1, k2⟩) (List.getElem?_set_self l1) (by rw [List.getElem?_set_ne (by decide)]; exact a2) (by rw [List.length_set]; exact a3) a4 ⟨-9, List.getElem?_set_self (by rw [a3]; exact hr), by show (-9 : Int) < 0; decide⟩
        rw [Nat.zero_add] at h5
        exact h5), zMB_ne hM.2 (by rw [List.getElem?_set_ne (by decide)]) (by rw [List.getElem?_set_ne (by decide)]) (by omega)⟩
      refine yreach.at (S' := (1, [(0, .inr (.inr (1, 57))), (1, .inl ((r : Int), (r : Int)))], [.inr (.inr (1, 57))], w, 0, 0)) (q := _) rfl rfl ?_
      refine yreach.at (S' := (2, [(0, .inr (.inr (1, 57))), (1, .inl ((r : Int), (r : Int)))], [.inl ((r : Int), (r : Int)), .inr (.inr (1, 57))], w, 0, 0)) (q := _) rfl rfl ?_
      refine ycall_at (N := xm163) (ro := some (.inl (0, 0))) (w' := w) (recv := true) (i := .invokevirtual 165) (a := 163) (na := 2) (z := 0) rfl (fun _ => rfl) rfl (zask_row_y hU hr (by rw [Nat.zero_add]; exact hS)) ⟨Nat.le_of_ble_eq_true rfl, Nat.le_of_ble_eq_true rfl, Nat.le_of_ble_eq_true rfl, Nat.le_of_ble_eq_true rfl, Nat.le_of_ble_eq_true rfl, Nat.le_of_ble_eq_true rfl, (xrecv_at (as := [.inl ((r : Int), (r : Int))]) hw)⟩ ?_
      show yreach (ySt sc xm165) (yJm l D tA ex sc xm165) (_) (5, [(0, .inr (.inr (1, 57))), (1, .inl ((r : Int), (r : Int)))], [.inl (0, 0)], w, 0, 0)
      refine yreach.at (S' := (6, [(2, .inl (0, 0)), (0, .inr (.inr (1, 57))), (1, .inl ((r : Int), (r : Int)))], [], w, 0, 0)) (q := _) rfl rfl ?_
      refine yreach.at (S' := (7, [(2, .inl (0, 0)), (0, .inr (.inr (1, 57))), (1, .inl ((r : Int), (r : Int)))], [.inl (0, 0)], w, 0, 0)) (q := _) rfl rfl ?_
      refine yreach.at (S' := (12, [(2, .inl (0, 0)), (0, .inr (.inr (1, 57))), (1, .inl ((r : Int), (r : Int)))], [], w, 0, 0)) (q := _) rfl (sx_if (o := true) (zcmp xge_of (decide_eq_true (by omega)))) ?_
      refine yreach.at (S' := (13, [(2, .inl (0, 0)), (0, .inr (.inr (1, 57))), (1, .inl ((r : Int), (r : Int)))], [.inr (.inr (1, 57))], w, 0, 0)) (q := _) rfl rfl ?_
      refine yreach.at (S' := (16, [(2, .inl (0, 0)), (0, .inr (.inr (1, 57))), (1, .inl ((r : Int), (r : Int)))], [.inr (.inr (1, 59))], w, 0, 0)) (q := _) rfl (sx_get hw g7) ?_
      refine yreach.at (S' := (17, [(2, .inl (0, 0)), (0, .inr (.inr (1, 57))), (1, .inl ((r : Int), (r : Int)))], [.inl ((r : Int), (r : Int)), .inr (.inr (1, 59))], w, 0, 0)) (q := _) rfl rfl ?_
      refine yreach.at (S' := (19, [(2, .inl (0, 0)), (0, .inr (.inr (1, 57))), (1, .inl ((r : Int), (r : Int)))], [.inl (-9, -9), .inl ((r : Int), (r : Int)), .inr (.inr (1, 59))], w, 0, 0)) (q := _) rfl rfl ?_
      refine yreach.at (S' := (20, [(2, .inl (0, 0)), (0, .inr (.inr (1, 57))), (1, .inl ((r : Int), (r : Int)))], [], (w.set 59 (.inr (0, sz.set r (.inl (-9, -9))))), 0, 0)) (q := _) rfl (by exact sx_iast a1 (zwrite (by rw [a3]; exact hr))) ?_
      refine yreach.at (S' := (21, [(2, .inl (0, 0)), (0, .inr (.inr (1, 57))), (1, .inl ((r : Int), (r : Int)))], [.inl (1, 1)], (w.set 59 (.inr (0, sz.set r (.inl (-9, -9))))), 0, 0)) (q := _) rfl rfl ?_
      exact yreach.ret (q := (some (.inl (1, 1)), (w.set 59 (.inr (0, sz.set r (.inl (-9, -9))))), 0, 0)) ((xstep_at rfl).trans rfl) rfl
  · have n1 : a < 0 ∨ 6 ≤ a := by omega
    rw [show zTrA T a = -1 from if_pos n1, show zTrS T a = T from if_pos n1]
    refine ⟨w, zex (j := 165) rfl (Nat.le_of_ble_eq_true rfl) ?_, hU⟩
    refine yreach.at (S' := (1, [(0, .inr (.inr (1, 57))), (1, .inl (a, a))], [.inr (.inr (1, 57))], w, 0, 0)) (q := _) rfl rfl ?_
    refine yreach.at (S' := (2, [(0, .inr (.inr (1, 57))), (1, .inl (a, a))], [.inl (a, a), .inr (.inr (1, 57))], w, 0, 0)) (q := _) rfl rfl ?_
    refine ycall_at (N := xm163) (ro := some (.inl (-1, -1))) (w' := w) (recv := true) (i := .invokevirtual 165) (a := 163) (na := 2) (z := 0) rfl (fun _ => rfl) rfl (zask_row_n ha) ⟨Nat.le_of_ble_eq_true rfl, Nat.le_of_ble_eq_true rfl, Nat.le_of_ble_eq_true rfl, Nat.le_of_ble_eq_true rfl, Nat.le_of_ble_eq_true rfl, Nat.le_of_ble_eq_true rfl, (xrecv_at (as := [.inl (a, a)]) hw)⟩ ?_
    show yreach (ySt sc xm165) (yJm l D tA ex sc xm165) (_) (5, [(0, .inr (.inr (1, 57))), (1, .inl (a, a))], [.inl (-1, -1)], w, 0, 0)
    refine yreach.at (S' := (6, [(2, .inl (-1, -1)), (0, .inr (.inr (1, 57))), (1, .inl (a, a))], [], w, 0, 0)) (q := _) rfl rfl ?_
    refine yreach.at (S' := (7, [(2, .inl (-1, -1)), (0, .inr (.inr (1, 57))), (1, .inl (a, a))], [.inl (-1, -1)], w, 0, 0)) (q := _) rfl rfl ?_
    refine yreach.at (S' := (10, [(2, .inl (-1, -1)), (0, .inr (.inr (1, 57))), (1, .inl (a, a))], [], w, 0, 0)) (q := _) rfl (sx_if (o := false) (zcmp xge_of (decide_eq_false (by omega)))) ?_
    refine yreach.at (S' := (11, [(2, .inl (-1, -1)), (0, .inr (.inr (1, 57))), (1, .inl (a, a))], [.inl (-1, -1)], w, 0, 0)) (q := _) rfl rfl ?_
    exact yreach.ret (q := (some (.inl (-1, -1)), w, 0, 0)) ((xstep_at rfl).trans rfl) rfl
end YH
