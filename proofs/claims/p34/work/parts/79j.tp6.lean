/-! ===== by hand: rule ===== -/
def zRlA (S : ZS) (b a : Int) : Int := if b < 0 ∨ 6 ≤ b ∨ a < 0 ∨ 4 ≤ a then -1 else match S (10 + b.toNat) with
  | none => 0
  | some L => (L[a.toNat]?).getD 0
section YH
variable {l : Launch} {D : va_G} {tA : Nat → ClassId} {ex : List Nat} {sc : List XV}
set_option maxHeartbeats 4000000 in
theorem zc_rule {ks : List Nat} {w : XW} {S T : ZS} (hU : zU ks w S T) {b a : Int} : ∃ w', XMet l D vwCl (tysX tA) tA ex (xSTX ++ [sc]) xSV xNW xNF xTs xm109 [.inr (.inr (1, 0)), .inl (b, b), .inl (a, a)] w (some (.inl ((zRlA S b a), (zRlA S b a)))) w' ∧ zU ks w' S T := by
  obtain ⟨fs, hw, g1, g2⟩ := zf0 hU.1 hU.2.1
  obtain ⟨g3, fl, h11, hboat⟩ := zboat hU hw
  by_cases hb : 0 ≤ b ∧ b < 6
  · obtain ⟨u, rfl⟩ : ∃ r : Nat, b = (r : Int) := ⟨b.toNat, by omega⟩
    have hu : u < 6 := by omega
    obtain ⟨o, bf, x, ru, o1, ko, o2, gb, kx, x1, xl, h46⟩ := hboat u hu
    by_cases a1 : a < 0
    · rw [show zRlA S (u : Int) a = -1 from if_pos (by omega)]
      refine ⟨w, zex (j := 109) rfl (Nat.le_of_ble_eq_true rfl) ?_, hU⟩
      refine yreach.at (S' := (1, [(0, .inr (.inr (1, 0))), (1, .inl ((u : Int), (u : Int))), (2, .inl (a, a))], [.inr (.inr (1, 0))], w, 0, 0)) (q := _) rfl rfl ?_
      refine yreach.at (S' := (2, [(0, .inr (.inr (1, 0))), (1, .inl ((u : Int), (u : Int))), (2, .inl (a, a))], [.inl ((u : Int), (u : Int)), .inr (.inr (1, 0))], w, 0, 0)) (q := _) rfl rfl ?_
      refine ycall_at (N := xm38) (ro := some (.inr (.inr (1, o)))) (w' := w) (recv := true) (i := .invokevirtual 155) (a := 38) (na := 2) (z := 0) rfl (fun _ => rfl) rfl (zbt_in hw g3 h11 hu o1) ⟨Nat.le_of_ble_eq_true rfl, Nat.le_of_ble_eq_true rfl, Nat.le_of_ble_eq_true rfl, Nat.le_of_ble_eq_true rfl, Nat.le_of_ble_eq_true rfl, Nat.le_of_ble_eq_true rfl, (xrecv_at (as := [.inl ((u : Int), (u : Int))]) hw)⟩ ?_
      show yreach (ySt sc xm109) (yJm l D tA ex sc xm109) (_) (5, [(0, .inr (.inr (1, 0))), (1, .inl ((u : Int), (u : Int))), (2, .inl (a, a))], [.inr (.inr (1, o))], w, 0, 0)
      refine yreach.at (S' := (6, [(3, .inr (.inr (1, o))), (0, .inr (.inr (1, 0))), (1, .inl ((u : Int), (u : Int))), (2, .inl (a, a))], [], w, 0, 0)) (q := _) rfl rfl ?_
      refine yreach.at (S' := (7, [(3, .inr (.inr (1, o))), (0, .inr (.inr (1, 0))), (1, .inl ((u : Int), (u : Int))), (2, .inl (a, a))], [.inr (.inr (1, o))], w, 0, 0)) (q := _) rfl rfl ?_
      refine yreach.at (S' := (10, [(3, .inr (.inr (1, o))), (0, .inr (.inr (1, 0))), (1, .inl ((u : Int), (u : Int))), (2, .inl (a, a))], [], w, 0, 0)) (q := _) rfl rfl ?_
      refine yreach.at (S' := (11, [(3, .inr (.inr (1, o))), (0, .inr (.inr (1, 0))), (1, .inl ((u : Int), (u : Int))), (2, .inl (a, a))], [.inl (a, a)], w, 0, 0)) (q := _) rfl rfl ?_
      refine yreach.at (S' := (19, [(3, .inr (.inr (1, o))), (0, .inr (.inr (1, 0))), (1, .inl ((u : Int), (u : Int))), (2, .inl (a, a))], [], w, 0, 0)) (q := _) rfl (sx_if (o := true) (zcmp (show xcmp .lt _ _ = _ from xlt_of) (decide_eq_true (by omega)))) ?_
      refine yreach.at (S' := (20, [(3, .inr (.inr (1, o))), (0, .inr (.inr (1, 0))), (1, .inl ((u : Int), (u : Int))), (2, .inl (a, a))], [.inl (-1, -1)], w, 0, 0)) (q := _) rfl rfl ?_
      exact yreach.ret (q := (some (.inl (-1, -1)), w, 0, 0)) ((xstep_at rfl).trans rfl) rfl
    by_cases a2 : 4 ≤ a
    · rw [show zRlA S (u : Int) a = -1 from if_pos (by omega)]
      refine ⟨w, zex (j := 109) rfl (Nat.le_of_ble_eq_true rfl) ?_, hU⟩
      refine yreach.at (S' := (1, [(0, .inr (.inr (1, 0))), (1, .inl ((u : Int), (u : Int))), (2, .inl (a, a))], [.inr (.inr (1, 0))], w, 0, 0)) (q := _) rfl rfl ?_
      refine yreach.at (S' := (2, [(0, .inr (.inr (1, 0))), (1, .inl ((u : Int), (u : Int))), (2, .inl (a, a))], [.inl ((u : Int), (u : Int)), .inr (.inr (1, 0))], w, 0, 0)) (q := _) rfl rfl ?_
      refine ycall_at (N := xm38) (ro := some (.inr (.inr (1, o)))) (w' := w) (recv := true) (i := .invokevirtual 155) (a := 38) (na := 2) (z := 0) rfl (fun _ => rfl) rfl (zbt_in hw g3 h11 hu o1) ⟨Nat.le_of_ble_eq_true rfl, Nat.le_of_ble_eq_true rfl, Nat.le_of_ble_eq_true rfl, Nat.le_of_ble_eq_true rfl, Nat.le_of_ble_eq_true rfl, Nat.le_of_ble_eq_true rfl, (xrecv_at (as := [.inl ((u : Int), (u : Int))]) hw)⟩ ?_
      show yreach (ySt sc xm109) (yJm l D tA ex sc xm109) (_) (5, [(0, .inr (.inr (1, 0))), (1, .inl ((u : Int), (u : Int))), (2, .inl (a, a))], [.inr (.inr (1, o))], w, 0, 0)
      refine yreach.at (S' := (6, [(3, .inr (.inr (1, o))), (0, .inr (.inr (1, 0))), (1, .inl ((u : Int), (u : Int))), (2, .inl (a, a))], [], w, 0, 0)) (q := _) rfl rfl ?_
      refine yreach.at (S' := (7, [(3, .inr (.inr (1, o))), (0, .inr (.inr (1, 0))), (1, .inl ((u : Int), (u : Int))), (2, .inl (a, a))], [.inr (.inr (1, o))], w, 0, 0)) (q := _) rfl rfl ?_
      refine yreach.at (S' := (10, [(3, .inr (.inr (1, o))), (0, .inr (.inr (1, 0))), (1, .inl ((u : Int), (u : Int))), (2, .inl (a, a))], [], w, 0, 0)) (q := _) rfl rfl ?_
      refine yreach.at (S' := (11, [(3, .inr (.inr (1, o))), (0, .inr (.inr (1, 0))), (1, .inl ((u : Int), (u : Int))), (2, .inl (a, a))], [.inl (a, a)], w, 0, 0)) (q := _) rfl rfl ?_
      refine yreach.at (S' := (14, [(3, .inr (.inr (1, o))), (0, .inr (.inr (1, 0))), (1, .inl ((u : Int), (u : Int))), (2, .inl (a, a))], [], w, 0, 0)) (q := _) rfl (sx_if (o := false) (zcmp (show xcmp .lt _ _ = _ from xlt_of) (decide_eq_false (by omega)))) ?_
      refine yreach.at (S' := (15, [(3, .inr (.inr (1, o))), (0, .inr (.inr (1, 0))), (1, .inl ((u : Int), (u : Int))), (2, .inl (a, a))], [.inl (a, a)], w, 0, 0)) (q := _) rfl rfl ?_
      refine yreach.at (S' := (16, [(3, .inr (.inr (1, o))), (0, .inr (.inr (1, 0))), (1, .inl ((u : Int), (u : Int))), (2, .inl (a, a))], [.inl (4, 4), .inl (a, a)], w, 0, 0)) (q := _) rfl rfl ?_
      refine yreach.at (S' := (19, [(3, .inr (.inr (1, o))), (0, .inr (.inr (1, 0))), (1, .inl ((u : Int), (u : Int))), (2, .inl (a, a))], [], w, 0, 0)) (q := _) rfl (sx_icmp (o := false) (zcmp (show xcmp .lt _ _ = _ from xlt_of) (decide_eq_false (by omega)))) ?_
      refine yreach.at (S' := (20, [(3, .inr (.inr (1, o))), (0, .inr (.inr (1, 0))), (1, .inl ((u : Int), (u : Int))), (2, .inl (a, a))], [.inl (-1, -1)], w, 0, 0)) (q := _) rfl rfl ?_
      exact yreach.ret (q := (some (.inl (-1, -1)), w, 0, 0)) ((xstep_at rfl).trans rfl) rfl
    obtain ⟨a, rfl⟩ : ∃ r : Nat, a = (r : Int) := ⟨a.toNat, by omega⟩
    obtain ⟨L, hL, hl, hx⟩ := hU.2.2.2.2.2.1 u hu
    have n0 : ¬ ((u : Int) < 0 ∨ 6 ≤ (u : Int) ∨ (a : Int) < 0 ∨ 4 ≤ (a : Int)) := by omega
    have eA : zRlA S (u : Int) (a : Int) = (match S (10 + u) with
      | none => 0
      | some L => (L[a]?).getD 0) := if_neg n0
    rw [eA, hL]
    have hal : a < L.length := by omega
    have hv : (zarr L)[a]? = some (.inl ((L[a]?).getD 0, (L[a]?).getD 0)) := by
      unfold zarr
      rw [List.getElem?_map, List.getElem?_eq_getElem hal]
      rfl
    have x2 : w[x]? = some (.inr (0, zarr L)) := by
      rw [h46]
      exact hx
    refine ⟨w, zex (j := 109) rfl (Nat.le_of_ble_eq_true rfl) ?_, hU⟩
    refine yreach.at (S' := (1, [(0, .inr (.inr (1, 0))), (1, .inl ((u : Int), (u : Int))), (2, .inl ((a : Int), (a : Int)))], [.inr (.inr (1, 0))], w, 0, 0)) (q := _) rfl rfl ?_
    refine yreach.at (S' := (2, [(0, .inr (.inr (1, 0))), (1, .inl ((u : Int), (u : Int))), (2, .inl ((a : Int), (a : Int)))], [.inl ((u : Int), (u : Int)), .inr (.inr (1, 0))], w, 0, 0)) (q := _) rfl rfl ?_
    refine ycall_at (N := xm38) (ro := some (.inr (.inr (1, o)))) (w' := w) (recv := true) (i := .invokevirtual 155) (a := 38) (na := 2) (z := 0) rfl (fun _ => rfl) rfl (zbt_in hw g3 h11 hu o1) ⟨Nat.le_of_ble_eq_true rfl, Nat.le_of_ble_eq_true rfl, Nat.le_of_ble_eq_true rfl, Nat.le_of_ble_eq_true rfl, Nat.le_of_ble_eq_true rfl, Nat.le_of_ble_eq_true rfl, (xrecv_at (as := [.inl ((u : Int), (u : Int))]) hw)⟩ ?_
    show yreach (ySt sc xm109) (yJm l D tA ex sc xm109) (_) (5, [(0, .inr (.inr (1, 0))), (1, .inl ((u : Int), (u : Int))), (2, .inl ((a : Int), (a : Int)))], [.inr (.inr (1, o))], w, 0, 0)
    refine yreach.at (S' := (6, [(3, .inr (.inr (1, o))), (0, .inr (.inr (1, 0))), (1, .inl ((u : Int), (u : Int))), (2, .inl ((a : Int), (a : Int)))], [], w, 0, 0)) (q := _) rfl rfl ?_
    refine yreach.at (S' := (7, [(3, .inr (.inr (1, o))), (0, .inr (.inr (1, 0))), (1, .inl ((u : Int), (u : Int))), (2, .inl ((a : Int), (a : Int)))], [.inr (.inr (1, o))], w, 0, 0)) (q := _) rfl rfl ?_
    refine yreach.at (S' := (10, [(3, .inr (.inr (1, o))), (0, .inr (.inr (1, 0))), (1, .inl ((u : Int), (u : Int))), (2, .inl ((a : Int), (a : Int)))], [], w, 0, 0)) (q := _) rfl rfl ?_
    refine yreach.at (S' := (11, [(3, .inr (.inr (1, o))), (0, .inr (.inr (1, 0))), (1, .inl ((u : Int), (u : Int))), (2, .inl ((a : Int), (a : Int)))], [.inl ((a : Int), (a : Int))], w, 0, 0)) (q := _) rfl rfl ?_
    refine yreach.at (S' := (14, [(3, .inr (.inr (1, o))), (0, .inr (.inr (1, 0))), (1, .inl ((u : Int), (u : Int))), (2, .inl ((a : Int), (a : Int)))], [], w, 0, 0)) (q := _) rfl (sx_if (o := false) (zcmp (show xcmp .lt _ _ = _ from xlt_of) (decide_eq_false (by omega)))) ?_
    refine yreach.at (S' := (15, [(3, .inr (.inr (1, o))), (0, .inr (.inr (1, 0))), (1, .inl ((u : Int), (u : Int))), (2, .inl ((a : Int), (a : Int)))], [.inl ((a : Int), (a : Int))], w, 0, 0)) (q := _) rfl rfl ?_
    refine yreach.at (S' := (16, [(3, .inr (.inr (1, o))), (0, .inr (.inr (1, 0))), (1, .inl ((u : Int), (u : Int))), (2, .inl ((a : Int), (a : Int)))], [.inl (4, 4), .inl ((a : Int), (a : Int))], w, 0, 0)) (q := _) rfl rfl ?_
    refine yreach.at (S' := (21, [(3, .inr (.inr (1, o))), (0, .inr (.inr (1, 0))), (1, .inl ((u : Int), (u : Int))), (2, .inl ((a : Int), (a : Int)))], [], w, 0, 0)) (q := _) rfl (sx_icmp (o := true) (zcmp (show xcmp .lt _ _ = _ from xlt_of) (decide_eq_true (by omega)))) ?_
    refine yreach.at (S' := (22, [(3, .inr (.inr (1, o))), (0, .inr (.inr (1, 0))), (1, .inl ((u : Int), (u : Int))), (2, .inl ((a : Int), (a : Int)))], [.inr (.inr (1, o))], w, 0, 0)) (q := _) rfl rfl ?_
    refine yreach.at (S' := (25, [(3, .inr (.inr (1, o))), (0, .inr (.inr (1, 0))), (1, .inl ((u : Int), (u : Int))), (2, .inl ((a : Int), (a : Int)))], [.inr (.inr (1, x))], w, 0, 0)) (q := _) rfl (sx_get o2 gb) ?_
    refine yreach.at (S' := (26, [(3, .inr (.inr (1, o))), (0, .inr (.inr (1, 0))), (1, .inl ((u : Int), (u : Int))), (2, .inl ((a : Int), (a : Int)))], [.inl ((a : Int), (a : Int)), .inr (.inr (1, x))], w, 0, 0)) (q := _) rfl rfl ?_
    refine yreach.at (S' := (27, [(3, .inr (.inr (1, o))), (0, .inr (.inr (1, 0))), (1, .inl ((u : Int), (u : Int))), (2, .inl ((a : Int), (a : Int)))], [.inl ((L[a]?).getD 0, (L[a]?).getD 0)], w, 0, 0)) (q := _) rfl (sx_iald x2 (zread hv)) ?_
    exact yreach.ret (q := (some (.inl ((L[a]?).getD 0, (L[a]?).getD 0)), w, 0, 0)) ((xstep_at rfl).trans rfl) rfl
  · rw [show zRlA S b a = -1 from if_pos (by omega)]
    refine ⟨w, zex (j := 109) rfl (Nat.le_of_ble_eq_true rfl) ?_, hU⟩
    refine yreach.at (S' := (1, [(0, .inr (.inr (1, 0))), (1, .inl (b, b)), (2, .inl (a, a))], [.inr (.inr (1, 0))], w, 0, 0)) (q := _) rfl rfl ?_
    refine yreach.at (S' := (2, [(0, .inr (.inr (1, 0))), (1, .inl (b, b)), (2, .inl (a, a))], [.inl (b, b), .inr (.inr (1, 0))], w, 0, 0)) (q := _) rfl rfl ?_
    refine ycall_at (N := xm38) (ro := some (.inr (.inr (0, 0)))) (w' := w) (recv := true) (i := .invokevirtual 155) (a := 38) (na := 2) (z := 0) rfl (fun _ => rfl) rfl (zbt_no hb) ⟨Nat.le_of_ble_eq_true rfl, Nat.le_of_ble_eq_true rfl, Nat.le_of_ble_eq_true rfl, Nat.le_of_ble_eq_true rfl, Nat.le_of_ble_eq_true rfl, Nat.le_of_ble_eq_true rfl, (xrecv_at (as := [.inl (b, b)]) hw)⟩ ?_
    show yreach (ySt sc xm109) (yJm l D tA ex sc xm109) (_) (5, [(0, .inr (.inr (1, 0))), (1, .inl (b, b)), (2, .inl (a, a))], [.inr (.inr (0, 0))], w, 0, 0)
    refine yreach.at (S' := (6, [(3, .inr (.inr (0, 0))), (0, .inr (.inr (1, 0))), (1, .inl (b, b)), (2, .inl (a, a))], [], w, 0, 0)) (q := _) rfl rfl ?_
    refine yreach.at (S' := (7, [(3, .inr (.inr (0, 0))), (0, .inr (.inr (1, 0))), (1, .inl (b, b)), (2, .inl (a, a))], [.inr (.inr (0, 0))], w, 0, 0)) (q := _) rfl rfl ?_
    refine yreach.at (S' := (19, [(3, .inr (.inr (0, 0))), (0, .inr (.inr (1, 0))), (1, .inl (b, b)), (2, .inl (a, a))], [], w, 0, 0)) (q := _) rfl rfl ?_
    refine yreach.at (S' := (20, [(3, .inr (.inr (0, 0))), (0, .inr (.inr (1, 0))), (1, .inl (b, b)), (2, .inl (a, a))], [.inl (-1, -1)], w, 0, 0)) (q := _) rfl rfl ?_
    exact yreach.ret (q := (some (.inl (-1, -1)), w, 0, 0)) ((xstep_at rfl).trans rfl) rfl
set_option maxHeartbeats 4000000 in
theorem zm_rule {ks : List Nat} {w : XW} {S T : ZS} (hU : zU ks w S T) {b a : Int} : ∃ w', XMet l D vwCl (tysX tA) tA ex (xSTX ++ [sc]) xSV xNW xNF xTs xm229 [.inr (.inr (1, 57)), .inl (b, b), .inl (a, a)] w (some (.inl ((zRlA T b a), (zRlA T b a)))) w' ∧ zU ks w' S T := by
  obtain ⟨fs, hw, g7, g8, g9, g10, g11⟩ := zf57 hU.1 hU.2.1
  obtain ⟨g45, g44, x1, x2, x3, x4, hn⟩ := zf93 hU.1 hU.2.1 hw
  by_cases hb : 0 ≤ b ∧ b < 6
  · obtain ⟨u, rfl⟩ : ∃ r : Nat, b = (r : Int) := ⟨b.toNat, by omega⟩
    have hu : u < 6 := by omega
    by_cases ha : 0 ≤ a ∧ a ≤ 3
    · obtain ⟨a, rfl⟩ : ∃ r : Nat, a = (r : Int) := ⟨a.toNat, by omega⟩
      obtain ⟨rl, r1, r2, r3⟩ := hU.2.2.2.2.2.2
      obtain ⟨L, hL, hl, hx⟩ := r3 u hu
      have n0 : ¬ ((u : Int) < 0 ∨ 6 ≤ (u : Int) ∨ (a : Int) < 0 ∨ 4 ≤ (a : Int)) := by omega
      have eA : zRlA T (u : Int) (a : Int) = (match T (10 + u) with
        | none => 0
        | some L => (L[a]?).getD 0) := if_neg n0
      rw [eA, hL]
      have hal : a < L.length := by omega
      have hv : rl[4 * u + a]? = some (.inl ((L[a]?).getD 0, (L[a]?).getD 0)) := by
        rw [hx a (by omega)]
        unfold zarr
        rw [List.getElem?_map, List.getElem?_eq_getElem hal]
        rfl
      refine ⟨w, zex (j := 229) rfl (Nat.le_of_ble_eq_true rfl) ?_, hU⟩
      refine yreach.at (S' := (1, [(0, .inr (.inr (1, 57))), (1, .inl ((u : Int), (u : Int))), (2, .inl ((a : Int), (a : Int)))], [.inl ((u : Int), (u : Int))], w, 0, 0)) (q := _) rfl rfl ?_
      refine ycall_at (N := xm188) (ro := some (.inl (1, 1))) (w' := w) (recv := false) (i := .invokestatic 204) (a := 188) (na := 1) (z := 0) rfl (fun _ => rfl) rfl (zmb_y (by omega)) ⟨Nat.le_of_ble_eq_true rfl, Nat.le_of_ble_eq_true rfl, Nat.le_of_ble_eq_true rfl, Nat.le_of_ble_eq_true rfl, Nat.le_of_ble_eq_true rfl, Nat.le_of_ble_eq_true rfl, rfl⟩ ?_
      show yreach (ySt sc xm229) (yJm l D tA ex sc xm229) (_) (4, [(0, .inr (.inr (1, 57))), (1, .inl ((u : Int), (u : Int))), (2, .inl ((a : Int), (a : Int)))], [.inl (1, 1)], w, 0, 0)
      refine yreach.at (S' := (7, [(0, .inr (.inr (1, 57))), (1, .inl ((u : Int), (u : Int))), (2, .inl ((a : Int), (a : Int)))], [], w, 0, 0)) (q := _) rfl (sx_if (o := false) (zcmp xceq_of (decide_eq_false (by omega)))) ?_
      refine yreach.at (S' := (8, [(0, .inr (.inr (1, 57))), (1, .inl ((u : Int), (u : Int))), (2, .inl ((a : Int), (a : Int)))], [.inl ((a : Int), (a : Int))], w, 0, 0)) (q := _) rfl rfl ?_
      refine yreach.at (S' := (9, [(0, .inr (.inr (1, 57))), (1, .inl ((u : Int), (u : Int))), (2, .inl ((a : Int), (a : Int)))], [.inl (0, 0), .inl ((a : Int), (a : Int))], w, 0, 0)) (q := _) rfl rfl ?_
      refine yreach.at (S' := (10, [(0, .inr (.inr (1, 57))), (1, .inl ((u : Int), (u : Int))), (2, .inl ((a : Int), (a : Int)))], [.inl (3, 3), .inl (0, 0), .inl ((a : Int), (a : Int))], w, 0, 0)) (q := _) rfl rfl ?_
      refine ycall_at (N := xm160) (ro := some (.inl (1, 1))) (w' := w) (recv := false) (i := .invokestatic 146) (a := 160) (na := 3) (z := 0) rfl (fun _ => rfl) rfl (zin_y (by omega)) ⟨Nat.le_of_ble_eq_true rfl, Nat.le_of_ble_eq_true rfl, Nat.le_of_ble_eq_true rfl, Nat.le_of_ble_eq_true rfl, Nat.le_of_ble_eq_true rfl, Nat.le_of_ble_eq_true rfl, rfl⟩ ?_
      show yreach (ySt sc xm229) (yJm l D tA ex sc xm229) (_) (13, [(0, .inr (.inr (1, 57))), (1, .inl ((u : Int), (u : Int))), (2, .inl ((a : Int), (a : Int)))], [.inl (1, 1)], w, 0, 0)
      refine yreach.at (S' := (16, [(0, .inr (.inr (1, 57))), (1, .inl ((u : Int), (u : Int))), (2, .inl ((a : Int), (a : Int)))], [], w, 0, 0)) (q := _) rfl (sx_if (o := false) (zcmp xceq_of (decide_eq_false (by omega)))) ?_
      refine yreach.at (S' := (17, [(0, .inr (.inr (1, 57))), (1, .inl ((u : Int), (u : Int))), (2, .inl ((a : Int), (a : Int)))], [.inr (.inr (1, 57))], w, 0, 0)) (q := _) rfl rfl ?_
      refine yreach.at (S' := (20, [(0, .inr (.inr (1, 57))), (1, .inl ((u : Int), (u : Int))), (2, .inl ((a : Int), (a : Int)))], [.inr (.inr (1, 92))], w, 0, 0)) (q := _) rfl (sx_get hw g44) ?_
      refine yreach.at (S' := (21, [(0, .inr (.inr (1, 57))), (1, .inl ((u : Int), (u : Int))), (2, .inl ((a : Int), (a : Int)))], [.inl (4, 4), .inr (.inr (1, 92))], w, 0, 0)) (q := _) rfl rfl ?_
      refine yreach.at (S' := (22, [(0, .inr (.inr (1, 57))), (1, .inl ((u : Int), (u : Int))), (2, .inl ((a : Int), (a : Int)))], [.inl ((u : Int), (u : Int)), .inl (4, 4), .inr (.inr (1, 92))], w, 0, 0)) (q := _) rfl rfl ?_
      refine yreach.at (S' := (23, [(0, .inr (.inr (1, 57))), (1, .inl ((u : Int), (u : Int))), (2, .inl ((a : Int), (a : Int)))], [.inl (((4 * u : Nat) : Int), ((4 * u : Nat) : Int)), .inr (.inr (1, 92))], w, 0, 0)) (q := _) rfl (sx_bin rfl (zmul (by omega) ⟨by decide, by decide⟩ ⟨by omega, by omega⟩ ⟨by omega, by omega⟩)) ?_
      refine yreach.at (S' := (24, [(0, .inr (.inr (1, 57))), (1, .inl ((u : Int), (u : Int))), (2, .inl ((a : Int), (a : Int)))], [.inl ((a : Int), (a : Int)), .inl (((4 * u : Nat) : Int), ((4 * u : Nat) : Int)), .inr (.inr (1, 92))], w, 0, 0)) (q := _) rfl rfl ?_
      refine yreach.at (S' := (25, [(0, .inr (.inr (1, 57))), (1, .inl ((u : Int), (u : Int))), (2, .inl ((a : Int), (a : Int)))], [.inl (((4 * u + a : Nat) : Int), ((4 * u + a : Nat) : Int)), .inr (.inr (1, 92))], w, 0, 0)) (q := _) rfl (sx_bin rfl (zadd (by omega) (by omega))) ?_
      refine yreach.at (S' := (26, [(0, .inr (.inr (1, 57))), (1, .inl ((u : Int), (u : Int))), (2, .inl ((a : Int), (a : Int)))], [.inl ((L[a]?).getD 0, (L[a]?).getD 0)], w, 0, 0)) (q := _) rfl (sx_iald r1 (zread hv)) ?_
      refine yreach.at (S' := (30, [(0, .inr (.inr (1, 57))), (1, .inl ((u : Int), (u : Int))), (2, .inl ((a : Int), (a : Int)))], [.inl ((L[a]?).getD 0, (L[a]?).getD 0)], w, 0, 0)) (q := _) rfl rfl ?_
      exact yreach.ret (q := (some (.inl ((L[a]?).getD 0, (L[a]?).getD 0)), w, 0, 0)) ((xstep_at rfl).trans rfl) rfl
    · rw [show zRlA T (u : Int) a = -1 from if_pos (by omega)]
      refine ⟨w, zex (j := 229) rfl (Nat.le_of_ble_eq_true rfl) ?_, hU⟩
      refine yreach.at (S' := (1, [(0, .inr (.inr (1, 57))), (1, .inl ((u : Int), (u : Int))), (2, .inl (a, a))], [.inl ((u : Int), (u : Int))], w, 0, 0)) (q := _) rfl rfl ?_
      refine ycall_at (N := xm188) (ro := some (.inl (1, 1))) (w' := w) (recv := false) (i := .invokestatic 204) (a := 188) (na := 1) (z := 0) rfl (fun _ => rfl) rfl (zmb_y (by omega)) ⟨Nat.le_of_ble_eq_true rfl, Nat.le_of_ble_eq_true rfl, Nat.le_of_ble_eq_true rfl, Nat.le_of_ble_eq_true rfl, Nat.le_of_ble_eq_true rfl, Nat.le_of_ble_eq_true rfl, rfl⟩ ?_
      show yreach (ySt sc xm229) (yJm l D tA ex sc xm229) (_) (4, [(0, .inr (.inr (1, 57))), (1, .inl ((u : Int), (u : Int))), (2, .inl (a, a))], [.inl (1, 1)], w, 0, 0)
      refine yreach.at (S' := (7, [(0, .inr (.inr (1, 57))), (1, .inl ((u : Int), (u : Int))), (2, .inl (a, a))], [], w, 0, 0)) (q := _) rfl (sx_if (o := false) (zcmp xceq_of (decide_eq_false (by omega)))) ?_
      refine yreach.at (S' := (8, [(0, .inr (.inr (1, 57))), (1, .inl ((u : Int), (u : Int))), (2, .inl (a, a))], [.inl (a, a)], w, 0, 0)) (q := _) rfl rfl ?_
      refine yreach.at (S' := (9, [(0, .inr (.inr (1, 57))), (1, .inl ((u : Int), (u : Int))), (2, .inl (a, a))], [.inl (0, 0), .inl (a, a)], w, 0, 0)) (q := _) rfl rfl ?_
      refine yreach.at (S' := (10, [(0, .inr (.inr (1, 57))), (1, .inl ((u : Int), (u : Int))), (2, .inl (a, a))], [.inl (3, 3), .inl (0, 0), .inl (a, a)], w, 0, 0)) (q := _) rfl rfl ?_
      refine ycall_at (N := xm160) (ro := some (.inl (0, 0))) (w' := w) (recv := false) (i := .invokestatic 146) (a := 160) (na := 3) (z := 0) rfl (fun _ => rfl) rfl (zin_n (by omega)) ⟨Nat.le_of_ble_eq_true rfl, Nat.le_of_ble_eq_true rfl, Nat.le_of_ble_eq_true rfl, Nat.le_of_ble_eq_true rfl, Nat.le_of_ble_eq_true rfl, Nat.le_of_ble_eq_true rfl, rfl⟩ ?_
      show yreach (ySt sc xm229) (yJm l D tA ex sc xm229) (_) (13, [(0, .inr (.inr (1, 57))), (1, .inl ((u : Int), (u : Int))), (2, .inl (a, a))], [.inl (0, 0)], w, 0, 0)
      refine yreach.at (S' := (29, [(0, .inr (.inr (1, 57))), (1, .inl ((u : Int), (u : Int))), (2, .inl (a, a))], [], w, 0, 0)) (q := _) rfl (sx_if (o := true) (zcmp xceq_of (decide_eq_true (by omega)))) ?_
      refine yreach.at (S' := (30, [(0, .inr (.inr (1, 57))), (1, .inl ((u : Int), (u : Int))), (2, .inl (a, a))], [.inl (-1, -1)], w, 0, 0)) (q := _) rfl rfl ?_
      exact yreach.ret (q := (some (.inl (-1, -1)), w, 0, 0)) ((xstep_at rfl).trans rfl) rfl
  · rw [show zRlA T b a = -1 from if_pos (by omega)]
    refine ⟨w, zex (j := 229) rfl (Nat.le_of_ble_eq_true rfl) ?_, hU⟩
    refine yreach.at (S' := (1, [(0, .inr (.inr (1, 57))), (1, .inl (b, b)), (2, .inl (a, a))], [.inl (b, b)], w, 0, 0)) (q := _) rfl rfl ?_
    refine ycall_at (N := xm188) (ro := some (.inl (0, 0))) (w' := w) (recv := false) (i := .invokestatic 204) (a := 188) (na := 1) (z := 0) rfl (fun _ => rfl) rfl (zmb_n (by omega)) ⟨Nat.le_of_ble_eq_true rfl, Nat.le_of_ble_eq_true rfl, Nat.le_of_ble_eq_true rfl, Nat.le_of_ble_eq_true rfl, Nat.le_of_ble_eq_true rfl, Nat.le_of_ble_eq_true rfl, rfl⟩ ?_
    show yreach (ySt sc xm229) (yJm l D tA ex sc xm229) (_) (4, [(0, .inr (.inr (1, 57))), (1, .inl (b, b)), (2, .inl (a, a))], [.inl (0, 0)], w, 0, 0)
    refine yreach.at (S' := (29, [(0, .inr (.inr (1, 57))), (1, .inl (b, b)), (2, .inl (a, a))], [], w, 0, 0)) (q := _) rfl (sx_if (o := true) (zcmp xceq_of (decide_eq_true (by omega)))) ?_
    refine yreach.at (S' := (30, [(0, .inr (.inr (1, 57))), (1, .inl (b, b)), (2, .inl (a, a))], [.inl (-1, -1)], w, 0, 0)) (q := _) rfl rfl ?_
    exact yreach.ret (q := (some (.inl (-1, -1)), w, 0, 0)) ((xstep_at rfl).trans rfl) rfl
end YH
