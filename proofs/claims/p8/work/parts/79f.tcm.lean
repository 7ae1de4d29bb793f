/-! ===== by hand: mean ===== -/
def zMnA (S : ZS) (a : Int) : Int := if a < 0 ∨ 6 ≤ a then -1 else match S (0 + a.toNat) with
  | none => -3
  | some L => if L.length = 0 then -3 else 1
section YH
variable {l : Launch} {D : va_G} {tA : Nat → ClassId} {ex : List Nat} {sc : List XV}
set_option maxRecDepth 4000 in
theorem zask1 {ks : List Nat} {w : XW} {S T : ZS} (hU : zU ks w S T) {v : Int} (h1 : yrg v) : ∃ w', XMet l D vwCl (tysX tA) tA ex (xSTX ++ [sc]) xSV xNW xNF xTs xm168 [.inr (.inr (1, 57)), .inl (v, v), .inl (1, 1)] w (some (.inl (1, 1))) w' ∧ zU ks w' S T := by
  obtain ⟨ro, w', m1, m2, _, m4, _, _, A, hA, a1, _⟩ := yall (l := l) (D := D) (tA := tA) (ex := ex) (sc := sc) 168 xm168 _ rfl (yct_of (L := yD505) (i := 219) (d := yD_286) rfl) ks [.inr (.inr (1, 57)), .inl (v, v), .inl (1, 1)] w [] ⟨_, _, rfl, Or.inr ⟨57, rfl, hU.2.1.at rfl⟩, _, _, rfl, ytop_in h1, _, _, rfl, ytop_in ⟨by decide, by decide⟩, rfl⟩ hU.1 rfl (fun g hg => by cases hg)
  rw [List.mem_singleton.mp hA] at a1
  have e : ro = some (.inl (1, 1)) := a1.1
  subst e
  exact ⟨w', m1, zU_rows hU m2 (m4 rfl)⟩
theorem zcmn_loop {w : XW} {q p n : Nat} {a : Int} {es : List XV} {Post : Option XV × XW × Nat × Nat → Prop} (hq : w[q]? = some (.inl (4, [.inr (.inr (1, p)), .inl ((n : Int), (n : Int))]))) (hp : w[p]? = some (.inr (0, es))) (hn : n ≤ 40) (he : ∀ i : Nat, i < n → ∃ v, es[i]? = some (.inl (v, v))) (H : ∀ s : Int, yreach (ySt sc xm18) (yJm l D tA ex sc xm18) (Post) (69, [(5, .inl (((n : Nat) : Int), ((n : Nat) : Int))), (3, .inr (.inl (some s))), (2, .inr (.inr (1, q))), (0, .inr (.inr (1, 0))), (1, .inl (a, a))], [], w, 0, 0)) : ∀ (m i : Nat) (s : Int), i + m = n → yreach (ySt sc xm18) (yJm l D tA ex sc xm18) (Post) (43, [(5, .inl (((i : Nat) : Int), ((i : Nat) : Int))), (3, .inr (.inl (some s))), (2, .inr (.inr (1, q))), (0, .inr (.inr (1, 0))), (1, .inl (a, a))], [], w, 0, 0)
  | 0, i, s, e => by
    have e : i = n := e
    subst e
    refine yreach.at (S' := (45, [(5, .inl (((i : Nat) : Int), ((i : Nat) : Int))), (3, .inr (.inl (some s))), (2, .inr (.inr (1, q))), (0, .inr (.inr (1, 0))), (1, .inl (a, a))], [.inl (((i : Nat) : Int), ((i : Nat) : Int))], w, 0, 0)) (q := _) rfl rfl ?_
    refine yreach.at (S' := (46, [(5, .inl (((i : Nat) : Int), ((i : Nat) : Int))), (3, .inr (.inl (some s))), (2, .inr (.inr (1, q))), (0, .inr (.inr (1, 0))), (1, .inl (a, a))], [.inr (.inr (1, q)), .inl (((i : Nat) : Int), ((i : Nat) : Int))], w, 0, 0)) (q := _) rfl rfl ?_
    refine yreach.at (S' := (49, [(5, .inl (((i : Nat) : Int), ((i : Nat) : Int))), (3, .inr (.inl (some s))), (2, .inr (.inr (1, q))), (0, .inr (.inr (1, 0))), (1, .inl (a, a))], [.inl ((i : Int), (i : Int)), .inl (((i : Nat) : Int), ((i : Nat) : Int))], w, 0, 0)) (q := _) rfl (sx_get hq rfl) ?_
    refine yreach.at (S' := (69, [(5, .inl (((i : Nat) : Int), ((i : Nat) : Int))), (3, .inr (.inl (some s))), (2, .inr (.inr (1, q))), (0, .inr (.inr (1, 0))), (1, .inl (a, a))], [], w, 0, 0)) (q := _) rfl (sx_icmp (o := true) (zcmp xge_of (decide_eq_true (by omega)))) ?_
    exact H s
  | m + 1, i, s, e => by
    obtain ⟨v, hv⟩ := he i (by omega)
    refine yreach.at (S' := (45, [(5, .inl (((i : Nat) : Int), ((i : Nat) : Int))), (3, .inr (.inl (some s))), (2, .inr (.inr (1, q))), (0, .inr (.inr (1, 0))), (1, .inl (a, a))], [.inl (((i : Nat) : Int), ((i : Nat) : Int))], w, 0, 0)) (q := _) rfl rfl ?_
    refine yreach.at (S' := (46, [(5, .inl (((i : Nat) : Int), ((i : Nat) : Int))), (3, .inr (.inl (some s))), (2, .inr (.inr (1, q))), (0, .inr (.inr (1, 0))), (1, .inl (a, a))], [.inr (.inr (1, q)), .inl (((i : Nat) : Int), ((i : Nat) : Int))], w, 0, 0)) (q := _) rfl rfl ?_
    refine yreach.at (S' := (49, [(5, .inl (((i : Nat) : Int), ((i : Nat) : Int))), (3, .inr (.inl (some s))), (2, .inr (.inr (1, q))), (0, .inr (.inr (1, 0))), (1, .inl (a, a))], [.inl ((n : Int), (n : Int)), .inl (((i : Nat) : Int), ((i : Nat) : Int))], w, 0, 0)) (q := _) rfl (sx_get hq rfl) ?_
    refine yreach.at (S' := (52, [(5, .inl (((i : Nat) : Int), ((i : Nat) : Int))), (3, .inr (.inl (some s))), (2, .inr (.inr (1, q))), (0, .inr (.inr (1, 0))), (1, .inl (a, a))], [], w, 0, 0)) (q := _) rfl (sx_icmp (o := false) (zcmp xge_of (decide_eq_false (by omega)))) ?_
    refine yreach.at (S' := (53, [(5, .inl (((i : Nat) : Int), ((i : Nat) : Int))), (3, .inr (.inl (some s))), (2, .inr (.inr (1, q))), (0, .inr (.inr (1, 0))), (1, .inl (a, a))], [.inr (.inl (some s))], w, 0, 0)) (q := _) rfl rfl ?_
    refine yreach.at (S' := (54, [(5, .inl (((i : Nat) : Int), ((i : Nat) : Int))), (3, .inr (.inl (some s))), (2, .inr (.inr (1, q))), (0, .inr (.inr (1, 0))), (1, .inl (a, a))], [.inr (.inr (1, q)), .inr (.inl (some s))], w, 0, 0)) (q := _) rfl rfl ?_
    refine yreach.at (S' := (57, [(5, .inl (((i : Nat) : Int), ((i : Nat) : Int))), (3, .inr (.inl (some s))), (2, .inr (.inr (1, q))), (0, .inr (.inr (1, 0))), (1, .inl (a, a))], [.inr (.inr (1, p)), .inr (.inl (some s))], w, 0, 0)) (q := _) rfl (sx_get hq rfl) ?_
    refine yreach.at (S' := (59, [(5, .inl (((i : Nat) : Int), ((i : Nat) : Int))), (3, .inr (.inl (some s))), (2, .inr (.inr (1, q))), (0, .inr (.inr (1, 0))), (1, .inl (a, a))], [.inl (((i : Nat) : Int), ((i : Nat) : Int)), .inr (.inr (1, p)), .inr (.inl (some s))], w, 0, 0)) (q := _) rfl rfl ?_
    refine yreach.at (S' := (60, [(5, .inl (((i : Nat) : Int), ((i : Nat) : Int))), (3, .inr (.inl (some s))), (2, .inr (.inr (1, q))), (0, .inr (.inr (1, 0))), (1, .inl (a, a))], [.inl (v, v), .inr (.inl (some s))], w, 0, 0)) (q := _) rfl (sx_iald hp (zread hv)) ?_
    refine yreach.at (S' := (61, [(5, .inl (((i : Nat) : Int), ((i : Nat) : Int))), (3, .inr (.inl (some s))), (2, .inr (.inr (1, q))), (0, .inr (.inr (1, 0))), (1, .inl (a, a))], [.inr (.inl (some v)), .inr (.inl (some s))], w, 0, 0)) (q := _) rfl sx_i2l ?_
    refine yreach.at (S' := (62, [(5, .inl (((i : Nat) : Int), ((i : Nat) : Int))), (3, .inr (.inl (some s))), (2, .inr (.inr (1, q))), (0, .inr (.inr (1, 0))), (1, .inl (a, a))], [.inr (.inl (some (Int64.ofInt s + Int64.ofInt v).toInt))], w, 0, 0)) (q := _) rfl rfl ?_
    refine yreach.at (S' := (63, [(3, .inr (.inl (some (Int64.ofInt s + Int64.ofInt v).toInt))), (5, .inl (((i : Nat) : Int), ((i : Nat) : Int))), (2, .inr (.inr (1, q))), (0, .inr (.inr (1, 0))), (1, .inl (a, a))], [], w, 0, 0)) (q := _) rfl rfl ?_
    refine yreach.at (S' := (66, [(5, .inl ((((i : Nat) : Int) + 1), (((i : Nat) : Int) + 1))), (3, .inr (.inl (some (Int64.ofInt s + Int64.ofInt v).toInt))), (2, .inr (.inr (1, q))), (0, .inr (.inr (1, 0))), (1, .inl (a, a))], [], w, 0, 0)) (q := _) rfl (sx_iinc (z := 1) rfl (Nat.le_of_ble_eq_true rfl) (by omega)) ?_
    refine yreach.at (S' := (43, [(5, .inl ((((i : Nat) : Int) + 1), (((i : Nat) : Int) + 1))), (3, .inr (.inl (some (Int64.ofInt s + Int64.ofInt v).toInt))), (2, .inr (.inr (1, q))), (0, .inr (.inr (1, 0))), (1, .inl (a, a))], [], w, 0, 0)) (q := _) rfl rfl ?_
    exact zcmn_loop hq hp hn he H m (i + 1) _ (by omega)
set_option maxHeartbeats 4000000 in
theorem zc_mean {ks : List Nat} {w : XW} {S T : ZS} (hU : zU ks w S T) {a : Int} : ∃ w', XMet l D vwCl (tysX tA) tA ex (xSTX ++ [sc]) xSV xNW xNF xTs xm18 [.inr (.inr (1, 0)), .inl (a, a)] w (some (.inl ((zMnA S a), (zMnA S a)))) w' ∧ zU ks w' S T := by
  obtain ⟨fs, hw, g1, g2⟩ := zf0 hU.1 hU.2.1
  by_cases ha : 0 ≤ a ∧ a < 6
  · obtain ⟨r, rfl⟩ : ∃ r : Nat, a = (r : Int) := ⟨a.toNat, by omega⟩
    have hr : r < 6 := by omega
    have hs : 0 + r < 10 := by omega
    obtain ⟨z, es, c1, c2, c3, c4⟩ := hU.2.2.1.2.2 (0 + r) hs
    have n0 : ¬ ((r : Int) < 0 ∨ 6 ≤ (r : Int)) := by omega
    have eA : zMnA S (r : Int) = (match S (0 + r) with
      | none => -3
      | some L => if L.length = 0 then -3 else 1) := if_neg n0
    rw [eA]
    cases hS : S (0 + r) with
    | none =>
      rw [hS] at c4
      obtain ⟨w2, m2, hU2⟩ := zfound (l := l) (D := D) (tA := tA) (ex := ex) (sc := sc) hU (v := 1) (by decide)
      refine ⟨w2, zex (j := 18) rfl (Nat.le_of_ble_eq_true rfl) ?_, hU2⟩
      refine yreach.at (S' := (1, [(0, .inr (.inr (1, 0))), (1, .inl ((r : Int), (r : Int)))], [.inr (.inr (1, 0))], w, 0, 0)) (q := _) rfl rfl ?_
      refine yreach.at (S' := (2, [(0, .inr (.inr (1, 0))), (1, .inl ((r : Int), (r : Int)))], [.inl ((r : Int), (r : Int)), .inr (.inr (1, 0))], w, 0, 0)) (q := _) rfl rfl ?_
      refine ycall_at (N := xm9) (ro := some (.inr (.inr (1, 25 + 2 * (0 + r))))) (w' := w) (recv := true) (i := .invokevirtual 78) (a := 9) (na := 2) (z := 0) rfl (fun _ => rfl) rfl (zrow_in hU hr) ⟨Nat.le_of_ble_eq_true rfl, Nat.le_of_ble_eq_true rfl, Nat.le_of_ble_eq_true rfl, Nat.le_of_ble_eq_true rfl, Nat.le_of_ble_eq_true rfl, Nat.le_of_ble_eq_true rfl, (xrecv_at (as := [.inl ((r : Int), (r : Int))]) hw)⟩ ?_
      show yreach (ySt sc xm18) (yJm l D tA ex sc xm18) (_) (5, [(0, .inr (.inr (1, 0))), (1, .inl ((r : Int), (r : Int)))], [.inr (.inr (1, 25 + 2 * (0 + r)))], w, 0, 0)
      refine yreach.at (S' := (6, [(2, .inr (.inr (1, 25 + 2 * (0 + r)))), (0, .inr (.inr (1, 0))), (1, .inl ((r : Int), (r : Int)))], [], w, 0, 0)) (q := _) rfl rfl ?_
      refine yreach.at (S' := (7, [(2, .inr (.inr (1, 25 + 2 * (0 + r)))), (0, .inr (.inr (1, 0))), (1, .inl ((r : Int), (r : Int)))], [.inr (.inr (1, 25 + 2 * (0 + r)))], w, 0, 0)) (q := _) rfl rfl ?_
      refine yreach.at (S' := (12, [(2, .inr (.inr (1, 25 + 2 * (0 + r)))), (0, .inr (.inr (1, 0))), (1, .inl ((r : Int), (r : Int)))], [], w, 0, 0)) (q := _) rfl rfl ?_
      refine yreach.at (S' := (13, [(2, .inr (.inr (1, 25 + 2 * (0 + r)))), (0, .inr (.inr (1, 0))), (1, .inl ((r : Int), (r : Int)))], [.inr (.inr (1, 25 + 2 * (0 + r)))], w, 0, 0)) (q := _) rfl rfl ?_
      refine ycall_at (N := xm13) (ro := some (.inl (1, 1))) (w' := w) (recv := true) (i := .invokevirtual 90) (a := 13) (na := 1) (z := 0) rfl (fun _ => rfl) rfl (zmis_y c1 c4) ⟨Nat.le_of_ble_eq_true rfl, Nat.le_of_ble_eq_true rfl, Nat.le_of_ble_eq_true rfl, Nat.le_of_ble_eq_true rfl, Nat.le_of_ble_eq_true rfl, Nat.le_of_ble_eq_true rfl, (xrecv_at (as := []) c1)⟩ ?_
      show yreach (ySt sc xm18) (yJm l D tA ex sc xm18) (_) (16, [(2, .inr (.inr (1, 25 + 2 * (0 + r)))), (0, .inr (.inr (1, 0))), (1, .inl ((r : Int), (r : Int)))], [.inl (1, 1)], w, 0, 0)
      refine yreach.at (S' := (19, [(2, .inr (.inr (1, 25 + 2 * (0 + r)))), (0, .inr (.inr (1, 0))), (1, .inl ((r : Int), (r : Int)))], [], w, 0, 0)) (q := _) rfl (sx_if (o := false) (zcmp xceq_of (decide_eq_false (by omega)))) ?_
      refine yreach.at (S' := (20, [(2, .inr (.inr (1, 25 + 2 * (0 + r)))), (0, .inr (.inr (1, 0))), (1, .inl ((r : Int), (r : Int)))], [.inr (.inr (1, 0))], w, 0, 0)) (q := _) rfl rfl ?_
      refine yreach.at (S' := (21, [(2, .inr (.inr (1, 25 + 2 * (0 + r)))), (0, .inr (.inr (1, 0))), (1, .inl ((r : Int), (r : Int)))], [.inl (1, 1), .inr (.inr (1, 0))], w, 0, 0)) (q := _) rfl rfl ?_
      refine ycall_at (N := xm10) (ro := some (.inl (-3, -3))) (w' := w2) (recv := true) (i := .invokevirtual 82) (a := 10) (na := 2) (z := 0) rfl (fun _ => rfl) rfl m2 ⟨Nat.le_of_ble_eq_true rfl, Nat.le_of_ble_eq_true rfl, Nat.le_of_ble_eq_true rfl, Nat.le_of_ble_eq_true rfl, Nat.le_of_ble_eq_true rfl, Nat.le_of_ble_eq_true rfl, (xrecv_at (as := [.inl (1, 1)]) hw)⟩ ?_
      show yreach (ySt sc xm18) (yJm l D tA ex sc xm18) (_) (24, [(2, .inr (.inr (1, 25 + 2 * (0 + r)))), (0, .inr (.inr (1, 0))), (1, .inl ((r : Int), (r : Int)))], [.inl (-3, -3)], w2, 0, 0)
      exact yreach.ret (q := (some (.inl (-3, -3)), w2, 0, 0)) ((xstep_at rfl).trans rfl) rfl
    | some L =>
      rw [hS] at c4
      have hL40 := c4.2.1
      have hzL := c4.1
      subst hzL
      dsimp only
      by_cases h0 : L.length = 0
      · rw [if_pos h0]
        obtain ⟨w2, m2, hU2⟩ := zfound (l := l) (D := D) (tA := tA) (ex := ex) (sc := sc) hU (v := 4) (by decide)
        refine ⟨w2, zex (j := 18) rfl (Nat.le_of_ble_eq_true rfl) ?_, hU2⟩
        refine yreach.at (S' := (1, [(0, .inr (.inr (1, 0))), (1, .inl ((r : Int), (r : Int)))], [.inr (.inr (1, 0))], w, 0, 0)) (q := _) rfl rfl ?_
        refine yreach.at (S' := (2, [(0, .inr (.inr (1, 0))), (1, .inl ((r : Int), (r : Int)))], [.inl ((r : Int), (r : Int)), .inr (.inr (1, 0))], w, 0, 0)) (q := _) rfl rfl ?_
        refine ycall_at (N := xm9) (ro := some (.inr (.inr (1, 25 + 2 * (0 + r))))) (w' := w) (recv := true) (i := .invokevirtual 78) (a := 9) (na := 2) (z := 0) rfl (fun _ => rfl) rfl (zrow_in hU hr) ⟨Nat.le_of_ble_eq_true rfl, Nat.le_of_ble_eq_true rfl, Nat.le_of_ble_eq_true rfl, Nat.le_of_ble_eq_true rfl, Nat.le_of_ble_eq_true rfl, Nat.le_of_ble_eq_true rfl, (xrecv_at (as := [.inl ((r : Int), (r : Int))]) hw)⟩ ?_
        show yreach (ySt sc xm18) (yJm l D tA ex sc xm18) (_) (5, [(0, .inr (.inr (1, 0))), (1, .inl ((r : Int), (r : Int)))], [.inr (.inr (1, 25 + 2 * (0 + r)))], w, 0, 0)
        refine yreach.at (S' := (6, [(2, .inr (.inr (1, 25 + 2 * (0 + r)))), (0, .inr (.inr (1, 0))), (1, .inl ((r : Int), (r : Int)))], [], w, 0, 0)) (q := _) rfl rfl ?_
        refine yreach.at (S' := (7, [(2, .inr (.inr (1, 25 + 2 * (0 + r)))), (0, .inr (.inr (1, 0))), (1, .inl ((r : Int), (r : Int)))], [.inr (.inr (1, 25 + 2 * (0 + r)))], w, 0, 0)) (q := _) rfl rfl ?_
        refine yreach.at (S' := (12, [(2, .inr (.inr (1, 25 + 2 * (0 + r)))), (0, .inr (.inr (1, 0))), (1, .inl ((r : Int), (r : Int)))], [], w, 0, 0)) (q := _) rfl rfl ?_
        refine yreach.at (S' := (13, [(2, .inr (.inr (1, 25 + 2 * (0 + r)))), (0, .inr (.inr (1, 0))), (1, .inl ((r : Int), (r : Int)))], [.inr (.inr (1, 25 + 2 * (0 + r)))], w, 0, 0)) (q := _) rfl rfl ?_
        refine ycall_at (N := xm13) (ro := some (.inl (0, 0))) (w' := w) (recv := true) (i := .invokevirtual 90) (a := 13) (na := 1) (z := 0) rfl (fun _ => rfl) rfl (zmis_n c1 (by omega)) ⟨Nat.le_of_ble_eq_true rfl, Nat.le_of_ble_eq_true rfl, Nat.le_of_ble_eq_true rfl, Nat.le_of_ble_eq_true rfl, Nat.le_of_ble_eq_true rfl, Nat.le_of_ble_eq_true rfl, (xrecv_at (as := []) c1)⟩ ?_
        show yreach (ySt sc xm18) (yJm l D tA ex sc xm18) (_) (16, [(2, .inr (.inr (1, 25 + 2 * (0 + r)))), (0, .inr (.inr (1, 0))), (1, .inl ((r : Int), (r : Int)))], [.inl (0, 0)], w, 0, 0)
        refine yreach.at (S' := (25, [(2, .inr (.inr (1, 25 + 2 * (0 + r)))), (0, .inr (.inr (1, 0))), (1, .inl ((r : Int), (r : Int)))], [], w, 0, 0)) (q := _) rfl (sx_if (o := true) (zcmp xceq_of (decide_eq_true (by omega)))) ?_
        refine yreach.at (S' := (26, [(2, .inr (.inr (1, 25 + 2 * (0 + r)))), (0, .inr (.inr (1, 0))), (1, .inl ((r : Int), (r : Int)))], [.inr (.inr (1, 25 + 2 * (0 + r)))], w, 0, 0)) (q := _) rfl rfl ?_
        refine yreach.at (S' := (29, [(2, .inr (.inr (1, 25 + 2 * (0 + r)))), (0, .inr (.inr (1, 0))), (1, .inl ((r : Int), (r : Int)))], [.inl ((L.length : Int), (L.length : Int))], w, 0, 0)) (q := _) rfl (sx_get c1 rfl) ?_
        refine yreach.at (S' := (32, [(2, .inr (.inr (1, 25 + 2 * (0 + r)))), (0, .inr (.inr (1, 0))), (1, .inl ((r : Int), (r : Int)))], [], w, 0, 0)) (q := _) rfl (sx_if (o := false) (zcmp xcne_of (decide_eq_false (by omega)))) ?_
        refine yreach.at (S' := (33, [(2, .inr (.inr (1, 25 + 2 * (0 + r)))), (0, .inr (.inr (1, 0))), (1, .inl ((r : Int), (r : Int)))], [.inr (.inr (1, 0))], w, 0, 0)) (q := _) rfl rfl ?_
        refine yreach.at (S' := (34, [(2, .inr (.inr (1, 25 + 2 * (0 + r)))), (0, .inr (.inr (1, 0))), (1, .inl ((r : Int), (r : Int)))], [.inl (4, 4), .inr (.inr (1, 0))], w, 0, 0)) (q := _) rfl rfl ?_
        refine ycall_at (N := xm10) (ro := some (.inl (-3, -3))) (w' := w2) (recv := true) (i := .invokevirtual 82) (a := 10) (na := 2) (z := 0) rfl (fun _ => rfl) rfl m2 ⟨Nat.le_of_ble_eq_true rfl, Nat.le_of_ble_eq_true rfl, Nat.le_of_ble_eq_true rfl, Nat.le_of_ble_eq_true rfl, Nat.le_of_ble_eq_true rfl, Nat.le_of_ble_eq_true rfl, (xrecv_at (as := [.inl (4, 4)]) hw)⟩ ?_
        show yreach (ySt sc xm18) (yJm l D tA ex sc xm18) (_) (37, [(2, .inr (.inr (1, 25 + 2 * (0 + r)))), (0, .inr (.inr (1, 0))), (1, .inl ((r : Int), (r : Int)))], [.inl (-3, -3)], w2, 0, 0)
        exact yreach.ret (q := (some (.inl (-3, -3)), w2, 0, 0)) ((xstep_at rfl).trans rfl) rfl
      · rw [if_neg h0]
        have he : ∀ i : Nat, i < L.length → ∃ v, es[i]? = some (.inl (v, v)) := fun i hi => by
          have h3 := c4.2.2 i L[i] (List.getElem?_eq_getElem hi)
          rw [Nat.zero_add] at h3
          exact ⟨_, h3⟩
        obtain ⟨ro, w', m1, m2⟩ := yco_of (l := l) (D := D) (tA := tA) (ex := ex) (sc := sc) (M := xm18) (j := 18) (as := [.inr (.inr (1, 0)), .inl ((r : Int), (r : Int))]) (w := w) (Post := fun p => p.1 = some (.inl (1, 1)) ∧ p.2.2 = (0, 0) ∧ zU ks p.2.1 S T) rfl (Nat.le_of_ble_eq_true rfl) (fun p hp => hp.2.1) (by
          refine yreach.at (S' := (1, [(0, .inr (.inr (1, 0))), (1, .inl ((r : Int), (r : Int)))], [.inr (.inr (1, 0))], w, 0, 0)) (q := _) rfl rfl ?_
          refine yreach.at (S' := (2, [(0, .inr (.inr (1, 0))), (1, .inl ((r : Int), (r : Int)))], [.inl ((r : Int), (r : Int)), .inr (.inr (1, 0))], w, 0, 0)) (q := _) rfl rfl ?_
          refine ycall_at (N := xm9) (ro := some (.inr (.inr (1, 25 + 2 * (0 + r))))) (w' := w) (recv := true) (i := .invokevirtual 78) (a := 9) (na := 2) (z := 0) rfl (fun _ => rfl) rfl (zrow_in hU hr) ⟨Nat.le_of_ble_eq_true rfl, Nat.le_of_ble_eq_true rfl, Nat.le_of_ble_eq_true rfl, Nat.le_of_ble_eq_true rfl, Nat.le_of_ble_eq_true rfl, Nat.le_of_ble_eq_true rfl, (xrecv_at (as := [.inl ((r : Int), (r : Int))]) hw)⟩ ?_
          show yreach (ySt sc xm18) (yJm l D tA ex sc xm18) (_) (5, [(0, .inr (.inr (1, 0))), (1, .inl ((r : Int), (r : Int)))], [.inr (.inr (1, 25 + 2 * (0 + r)))], w, 0, 0)
          refine yreach.at (S' := (6, [(2, .inr (.inr (1, 25 + 2 * (0 + r)))), (0, .inr (.inr (1, 0))), (1, .inl ((r : Int), (r : Int)))], [], w, 0, 0)) (q := _) rfl rfl ?_
          refine yreach.at (S' := (7, [(2, .inr (.inr (1, 25 + 2 * (0 + r)))), (0, .inr (.inr (1, 0))), (1, .inl ((r : Int), (r : Int)))], [.inr (.inr (1, 25 + 2 * (0 + r)))], w, 0, 0)) (q := _) rfl rfl ?_
          refine yreach.at (S' := (12, [(2, .inr (.inr (1, 25 + 2 * (0 + r)))), (0, .inr (.inr (1, 0))), (1, .inl ((r : Int), (r : Int)))], [], w, 0, 0)) (q := _) rfl rfl ?_
          refine yreach.at (S' := (13, [(2, .inr (.inr (1, 25 + 2 * (0 + r)))), (0, .inr (.inr (1, 0))), (1, .inl ((r : Int), (r : Int)))], [.inr (.inr (1, 25 + 2 * (0 + r)))], w, 0, 0)) (q := _) rfl rfl ?_
          refine ycall_at (N := xm13) (ro := some (.inl (0, 0))) (w' := w) (recv := true) (i := .invokevirtual 90) (a := 13) (na := 1) (z := 0) rfl (fun _ => rfl) rfl (zmis_n c1 (by omega)) ⟨Nat.le_of_ble_eq_true rfl, Nat.le_of_ble_eq_true rfl, Nat.le_of_ble_eq_true rfl, Nat.le_of_ble_eq_true rfl, Nat.le_of_ble_eq_true rfl, Nat.le_of_ble_eq_true rfl, (xrecv_at (as := []) c1)⟩ ?_
          show yreach (ySt sc xm18) (yJm l D tA ex sc xm18) (_) (16, [(2, .inr (.inr (1, 25 + 2 * (0 + r)))), (0, .inr (.inr (1, 0))), (1, .inl ((r : Int), (r : Int)))], [.inl (0, 0)], w, 0, 0)
          refine yreach.at (S' := (25, [(2, .inr (.inr (1, 25 + 2 * (0 + r)))), (0, .inr (.inr (1, 0))), (1, .inl ((r : Int), (r : Int)))], [], w, 0, 0)) (q := _) rfl (sx_if (o := true) (zcmp xceq_of (decide_eq_true (by omega)))) ?_
          refine yreach.at (S' := (26, [(2, .inr (.inr (1, 25 + 2 * (0 + r)))), (0, .inr (.inr (1, 0))), (1, .inl ((r : Int), (r : Int)))], [.inr (.inr (1, 25 + 2 * (0 + r)))], w, 0, 0)) (q := _) rfl rfl ?_
          refine yreach.at (S' := (29, [(2, .inr (.inr (1, 25 + 2 * (0 + r)))), (0, .inr (.inr (1, 0))), (1, .inl ((r : Int), (r : Int)))], [.inl ((L.length : Int), (L.length : Int))], w, 0, 0)) (q := _) rfl (sx_get c1 rfl) ?_
          refine yreach.at (S' := (38, [(2, .inr (.inr (1, 25 + 2 * (0 + r)))), (0, .inr (.inr (1, 0))), (1, .inl ((r : Int), (r : Int)))], [], w, 0, 0)) (q := _) rfl (sx_if (o := true) (zcmp xcne_of (decide_eq_true (by omega)))) ?_
          refine yreach.at (S' := (39, [(2, .inr (.inr (1, 25 + 2 * (0 + r)))), (0, .inr (.inr (1, 0))), (1, .inl ((r : Int), (r : Int)))], [.inr (.inl (some 0))], w, 0, 0)) (q := _) rfl rfl ?_
          refine yreach.at (S' := (40, [(3, .inr (.inl (some 0))), (2, .inr (.inr (1, 25 + 2 * (0 + r)))), (0, .inr (.inr (1, 0))), (1, .inl ((r : Int), (r : Int)))], [], w, 0, 0)) (q := _) rfl rfl ?_
          refine yreach.at (S' := (41, [(3, .inr (.inl (some 0))), (2, .inr (.inr (1, 25 + 2 * (0 + r)))), (0, .inr (.inr (1, 0))), (1, .inl ((r : Int), (r : Int)))], [.inl (0, 0)], w, 0, 0)) (q := _) rfl rfl ?_
          refine yreach.at (S' := (43, [(5, .inl (0, 0)), (3, .inr (.inl (some 0))), (2, .inr (.inr (1, 25 + 2 * (0 + r)))), (0, .inr (.inr (1, 0))), (1, .inl ((r : Int), (r : Int)))], [], w, 0, 0)) (q := _) rfl rfl ?_
          refine zcmn_loop (q := 25 + 2 * (0 + r)) (p := 26 + 2 * (0 + r)) (n := L.length) (a := (r : Int)) (es := es) c1 c2 hL40 he (fun s => ?_) L.length 0 0 (Nat.zero_add _)
          refine yreach.at (S' := (70, [(5, .inl (((L.length : Nat) : Int), ((L.length : Nat) : Int))), (3, .inr (.inl (some s))), (2, .inr (.inr (1, 25 + 2 * (0 + r)))), (0, .inr (.inr (1, 0))), (1, .inl ((r : Int), (r : Int)))], [.inr (.inr (1, 0))], w, 0, 0)) (q := _) rfl rfl ?_
          refine yreach.at (S' := (71, [(5, .inl (((L.length : Nat) : Int), ((L.length : Nat) : Int))), (3, .inr (.inl (some s))), (2, .inr (.inr (1, 25 + 2 * (0 + r)))), (0, .inr (.inr (1, 0))), (1, .inl ((r : Int), (r : Int)))], [.inr (.inl (some s)), .inr (.inr (1, 0))], w, 0, 0)) (q := _) rfl rfl ?_
          refine yreach.at (S' := (72, [(5, .inl (((L.length : Nat) : Int), ((L.length : Nat) : Int))), (3, .inr (.inl (some s))), (2, .inr (.inr (1, 25 + 2 * (0 + r)))), (0, .inr (.inr (1, 0))), (1, .inl ((r : Int), (r : Int)))], [.inr (.inr (1, 25 + 2 * (0 + r))), .inr (.inl (some s)), .inr (.inr (1, 0))], w, 0, 0)) (q := _) rfl rfl ?_
          refine yreach.at (S' := (75, [(5, .inl (((L.length : Nat) : Int), ((L.length : Nat) : Int))), (3, .inr (.inl (some s))), (2, .inr (.inr (1, 25 + 2 * (0 + r)))), (0, .inr (.inr (1, 0))), (1, .inl ((r : Int), (r : Int)))], [.inl ((L.length : Int), (L.length : Int)), .inr (.inl (some s)), .inr (.inr (1, 0))], w, 0, 0)) (q := _) rfl (sx_get c1 rfl) ?_
          refine yreach.at (S' := (76, [(5, .inl (((L.length : Nat) : Int), ((L.length : Nat) : Int))), (3, .inr (.inl (some s))), (2, .inr (.inr (1, 25 + 2 * (0 + r)))), (0, .inr (.inr (1, 0))), (1, .inl ((r : Int), (r : Int)))], [.inr (.inl (some (L.length : Int))), .inr (.inl (some s)), .inr (.inr (1, 0))], w, 0, 0)) (q := _) rfl sx_i2l ?_
          refine yreach.at (S' := (77, [(5, .inl (((L.length : Nat) : Int), ((L.length : Nat) : Int))), (3, .inr (.inl (some s))), (2, .inr (.inr (1, 25 + 2 * (0 + r)))), (0, .inr (.inr (1, 0))), (1, .inl ((r : Int), (r : Int)))], [.inr (.inl (some (Int64.ofInt s / Int64.ofInt (L.length : Int)).toInt)), .inr (.inr (1, 0))], w, 0, 0)) (q := _) rfl (sx_ldiv (by omega)) ?_
          refine yreach.at (S' := (78, [(5, .inl (((L.length : Nat) : Int), ((L.length : Nat) : Int))), (3, .inr (.inl (some s))), (2, .inr (.inr (1, 25 + 2 * (0 + r)))), (0, .inr (.inr (1, 0))), (1, .inl ((r : Int), (r : Int)))], [.inl ((Int64.ofInt (Int64.ofInt s / Int64.ofInt (L.length : Int)).toInt).toInt32.toInt, (Int64.ofInt (Int64.ofInt s / Int64.ofInt (L.length : Int)).toInt).toInt32.toInt), .inr (.inr (1, 0))], w, 0, 0)) (q := _) rfl rfl ?_
          obtain ⟨w2, m2, hU2⟩ := ztell (l := l) (D := D) (tA := tA) (ex := ex) (sc := sc) hU (v := (Int64.ofInt (Int64.ofInt s / Int64.ofInt (L.length : Int)).toInt).toInt32.toInt) (x_rng _)
          refine ycall_at (N := xm15) (ro := some (.inl (1, 1))) (w' := w2) (recv := true) (i := .invokevirtual 101) (a := 15) (na := 2) (z := 0) rfl (fun _ => rfl) rfl m2 ⟨Nat.le_of_ble_eq_true rfl, Nat.le_of_ble_eq_true rfl, Nat.le_of_ble_eq_true rfl, Nat.le_of_ble_eq_true rfl, Nat.le_of_ble_eq_true rfl, Nat.le_of_ble_eq_true rfl, (xrecv_at (as := [.inl ((Int64.ofInt (Int64.ofInt s / Int64.ofInt (L.length : Int)).toInt).toInt32.toInt, (Int64.ofInt (Int64.ofInt s / Int64.ofInt (L.length : Int)).toInt).toInt32.toInt)]) hw)⟩ ?_
          show yreach (ySt sc xm18) (yJm l D tA ex sc xm18) (_) (81, [(5, .inl (((L.length : Nat) : Int), ((L.length : Nat) : Int))), (3, .inr (.inl (some s))), (2, .inr (.inr (1, 25 + 2 * (0 + r)))), (0, .inr (.inr (1, 0))), (1, .inl ((r : Int), (r : Int)))], [.inl (1, 1)], w2, 0, 0)
          exact yreach.ret (q := (some (.inl (1, 1)), w2, 0, 0)) ((xstep_at rfl).trans rfl) ⟨rfl, rfl, hU2⟩)
        obtain ⟨e1, _, e3⟩ := m2
        have e1 : ro = some (.inl (1, 1)) := e1
        subst e1
        exact ⟨w', m1, e3⟩
  · have n1 : a < 0 ∨ 6 ≤ a := by omega
    rw [show zMnA S a = -1 from if_pos n1]
    refine ⟨w, zex (j := 18) rfl (Nat.le_of_ble_eq_true rfl) ?_, hU⟩
    refine yreach.at (S' := (1, [(0, .inr (.inr (1, 0))), (1, .inl (a, a))], [.inr (.inr (1, 0))], w, 0, 0)) (q := _) rfl rfl ?_
    refine yreach.at (S' := (2, [(0, .inr (.inr (1, 0))), (1, .inl (a, a))], [.inl (a, a), .inr (.inr (1, 0))], w, 0, 0)) (q := _) rfl rfl ?_
    refine ycall_at (N := xm9) (ro := some (.inr (.inr (0, 0)))) (w' := w) (recv := true) (i := .invokevirtual 78) (a := 9) (na := 2) (z := 0) rfl (fun _ => rfl) rfl (zrow_no hU ha) ⟨Nat.le_of_ble_eq_true rfl, Nat.le_of_ble_eq_true rfl, Nat.le_of_ble_eq_true rfl, Nat.le_of_ble_eq_true rfl, Nat.le_of_ble_eq_true rfl, Nat.le_of_ble_eq_true rfl, (xrecv_at (as := [.inl (a, a)]) hw)⟩ ?_
    show yreach (ySt sc xm18) (yJm l D tA ex sc xm18) (_) (5, [(0, .inr (.inr (1, 0))), (1, .inl (a, a))], [.inr (.inr (0, 0))], w, 0, 0)
    refine yreach.at (S' := (6, [(2, .inr (.inr (0, 0))), (0, .inr (.inr (1, 0))), (1, .inl (a, a))], [], w, 0, 0)) (q := _) rfl rfl ?_
    refine yreach.at (S' := (7, [(2, .inr (.inr (0, 0))), (0, .inr (.inr (1, 0))), (1, .inl (a, a))], [.inr (.inr (0, 0))], w, 0, 0)) (q := _) rfl rfl ?_
    refine yreach.at (S' := (10, [(2, .inr (.inr (0, 0))), (0, .inr (.inr (1, 0))), (1, .inl (a, a))], [], w, 0, 0)) (q := _) rfl rfl ?_
    refine yreach.at (S' := (11, [(2, .inr (.inr (0, 0))), (0, .inr (.inr (1, 0))), (1, .inl (a, a))], [.inl (-1, -1)], w, 0, 0)) (q := _) rfl rfl ?_
    exact yreach.ret (q := (some (.inl (-1, -1)), w, 0, 0)) ((xstep_at rfl).trans rfl) rfl
theorem zmmn_loop {ks : List Nat} {w : XW} {r n : Nat} {sz es fs : List XV} {Post : Option XV × XW × Nat × Nat → Prop} (h4 : yheap yKD ks w) (hK : zK ks) (hr : r < 6) (hw : w[57]? = some (.inl (10, fs))) (g7 : fs[7]? = some (.inr (.inr (1, 59)))) (a1 : w[59]? = some (.inr (0, sz))) (a2 : w[60]? = some (.inr (0, es))) (b1 : sz[r]? = some (.inl ((n : Int), (n : Int)))) (hn : n ≤ 40) (he : ∀ i : Nat, i < n → ∃ v, es[40 * r + i]? = some (.inl (v, v))) (H : ∀ s : Int, yreach (ySt sc xm167) (yJm l D tA ex sc xm167) (Post) (45, [(5, .inl (((n : Nat) : Int), ((n : Nat) : Int))), (3, .inr (.inl (some s))), (2, .inl (0, 0)), (0, .inr (.inr (1, 57))), (1, .inl ((r : Int), (r : Int)))], [], w, 0, 0)) : ∀ (m i : Nat) (s : Int), i + m = n → yreach (ySt sc xm167) (yJm l D tA ex sc xm167) (Post) (17, [(5, .inl (((i : Nat) : Int), ((i : Nat) : Int))), (3, .inr (.inl (some s))), (2, .inl (0, 0)), (0, .inr (.inr (1, 57))), (1, .inl ((r : Int), (r : Int)))], [], w, 0, 0)
  | 0, i, s, e => by
    have e : i = n := e
    subst e
    refine yreach.at (S' := (19, [(5, .inl (((i : Nat) : Int), ((i : Nat) : Int))), (3, .inr (.inl (some s))), (2, .inl (0, 0)), (0, .inr (.inr (1, 57))), (1, .inl ((r : Int), (r : Int)))], [.inl (((i : Nat) : Int), ((i : Nat) : Int))], w, 0, 0)) (q := _) rfl rfl ?_
    refine yreach.at (S' := (20, [(5, .inl (((i : Nat) : Int), ((i : Nat) : Int))), (3, .inr (.inl (some s))), (2, .inl (0, 0)), (0, .inr (.inr (1, 57))), (1, .inl ((r : Int), (r : Int)))], [.inr (.inr (1, 57)), .inl (((i : Nat) : Int), ((i : Nat) : Int))], w, 0, 0)) (q := _) rfl rfl ?_
    refine yreach.at (S' := (23, [(5, .inl (((i : Nat) : Int), ((i : Nat) : Int))), (3, .inr (.inl (some s))), (2, .inl (0, 0)), (0, .inr (.inr (1, 57))), (1, .inl ((r : Int), (r : Int)))], [.inr (.inr (1, 59)), .inl (((i : Nat) : Int), ((i : Nat) : Int))], w, 0, 0)) (q := _) rfl (sx_get hw g7) ?_
    refine yreach.at (S' := (24, [(5, .inl (((i : Nat) : Int), ((i : Nat) : Int))), (3, .inr (.inl (some s))), (2, .inl (0, 0)), (0, .inr (.inr (1, 57))), (1, .inl ((r : Int), (r : Int)))], [.inl ((r : Int), (r : Int)), .inr (.inr (1, 59)), .inl (((i : Nat) : Int), ((i : Nat) : Int))], w, 0, 0)) (q := _) rfl rfl ?_
    refine yreach.at (S' := (25, [(5, .inl (((i : Nat) : Int), ((i : Nat) : Int))), (3, .inr (.inl (some s))), (2, .inl (0, 0)), (0, .inr (.inr (1, 57))), (1, .inl ((r : Int), (r : Int)))], [.inl ((i : Int), (i : Int)), .inl (((i : Nat) : Int), ((i : Nat) : Int))], w, 0, 0)) (q := _) rfl (sx_iald a1 (zread b1)) ?_
    refine yreach.at (S' := (45, [(5, .inl (((i : Nat) : Int), ((i : Nat) : Int))), (3, .inr (.inl (some s))), (2, .inl (0, 0)), (0, .inr (.inr (1, 57))), (1, .inl ((r : Int), (r : Int)))], [], w, 0, 0)) (q := _) rfl (sx_icmp (o := true) (zcmp xge_of (decide_eq_true (by omega)))) ?_
    exact H s
  | m + 1, i, s, e => by
    obtain ⟨v, hv⟩ := he i (by omega)
    refine yreach.at (S' := (19, [(5, .inl (((i : Nat) : Int), ((i : Nat) : Int))), (3, .inr (.inl (some s))), (2, .inl (0, 0)), (0, .inr (.inr (1, 57))), (1, .inl ((r : Int), (r : Int)))], [.inl (((i : Nat) : Int), ((i : Nat) : Int))], w, 0, 0)) (q := _) rfl rfl ?_
    refine yreach.at (S' := (20, [(5, .inl (((i : Nat) : Int), ((i : Nat) : Int))), (3, .inr (.inl (some s))), (2, .inl (0, 0)), (0, .inr (.inr (1, 57))), (1, .inl ((r : Int), (r : Int)))], [.inr (.inr (1, 57)), .inl (((i : Nat) : Int), ((i : Nat) : Int))], w, 0, 0)) (q := _) rfl rfl ?_
    refine yreach.at (S' := (23, [(5, .inl (((i : Nat) : Int), ((i : Nat) : Int))), (3, .inr (.inl (some s))), (2, .inl (0, 0)), (0, .inr (.inr (1, 57))), (1, .inl ((r : Int), (r : Int)))], [.inr (.inr (1, 59)), .inl (((i : Nat) : Int), ((i : Nat) : Int))], w, 0, 0)) (q := _) rfl (sx_get hw g7) ?_
    refine yreach.at (S' := (24, [(5, .inl (((i : Nat) : Int), ((i : Nat) : Int))), (3, .inr (.inl (some s))), (2, .inl (0, 0)), (0, .inr (.inr (1, 57))), (1, .inl ((r : Int), (r : Int)))], [.inl ((r : Int), (r : Int)), .inr (.inr (1, 59)), .inl (((i : Nat) : Int), ((i : Nat) : Int))], w, 0, 0)) (q := _) rfl rfl ?_
    refine yreach.at (S' := (25, [(5, .inl (((i : Nat) : Int), ((i : Nat) : Int))), (3, .inr (.inl (some s))), (2, .inl (0, 0)), (0, .inr (.inr (1, 57))), (1, .inl ((r : Int), (r : Int)))], [.inl ((n : Int), (n : Int)), .inl (((i : Nat) : Int), ((i : Nat) : Int))], w, 0, 0)) (q := _) rfl (sx_iald a1 (zread b1)) ?_
    refine yreach.at (S' := (28, [(5, .inl (((i : Nat) : Int), ((i : Nat) : Int))), (3, .inr (.inl (some s))), (2, .inl (0, 0)), (0, .inr (.inr (1, 57))), (1, .inl ((r : Int), (r : Int)))], [], w, 0, 0)) (q := _) rfl (sx_icmp (o := false) (zcmp xge_of (decide_eq_false (by omega)))) ?_
    refine yreach.at (S' := (29, [(5, .inl (((i : Nat) : Int), ((i : Nat) : Int))), (3, .inr (.inl (some s))), (2, .inl (0, 0)), (0, .inr (.inr (1, 57))), (1, .inl ((r : Int), (r : Int)))], [.inr (.inl (some s))], w, 0, 0)) (q := _) rfl rfl ?_
    refine yreach.at (S' := (30, [(5, .inl (((i : Nat) : Int), ((i : Nat) : Int))), (3, .inr (.inl (some s))), (2, .inl (0, 0)), (0, .inr (.inr (1, 57))), (1, .inl ((r : Int), (r : Int)))], [.inr (.inr (1, 57)), .inr (.inl (some s))], w, 0, 0)) (q := _) rfl rfl ?_
    refine yreach.at (S' := (31, [(5, .inl (((i : Nat) : Int), ((i : Nat) : Int))), (3, .inr (.inl (some s))), (2, .inl (0, 0)), (0, .inr (.inr (1, 57))), (1, .inl ((r : Int), (r : Int)))], [.inl ((r : Int), (r : Int)), .inr (.inr (1, 57)), .inr (.inl (some s))], w, 0, 0)) (q := _) rfl rfl ?_
    refine yreach.at (S' := (33, [(5, .inl (((i : Nat) : Int), ((i : Nat) : Int))), (3, .inr (.inl (some s))), (2, .inl (0, 0)), (0, .inr (.inr (1, 57))), (1, .inl ((r : Int), (r : Int)))], [.inl (((i : Nat) : Int), ((i : Nat) : Int)), .inl ((r : Int), (r : Int)), .inr (.inr (1, 57)), .inr (.inl (some s))], w, 0, 0)) (q := _) rfl rfl ?_
    refine ycall_at (N := xm164) (ro := some (.inl (v, v))) (w' := w) (recv := true) (i := .invokevirtual 168) (a := 164) (na := 3) (z := 0) rfl (fun _ => rfl) rfl (zmat h4 hK a2 hr (by omega) hv) ⟨Nat.le_of_ble_eq_true rfl, Nat.le_of_ble_eq_true rfl, Nat.le_of_ble_eq_true rfl, Nat.le_of_ble_eq_true rfl, Nat.le_of_ble_eq_true rfl, Nat.le_of_ble_eq_true rfl, (xrecv_at (as := [.inl ((r : Int), (r : Int)), .inl (((i : Nat) : Int), ((i : Nat) : Int))]) hw)⟩ ?_
    show yreach (ySt sc xm167) (yJm l D tA ex sc xm167) (_) (36, [(5, .inl (((i : Nat) : Int), ((i : Nat) : Int))), (3, .inr (.inl (some s))), (2, .inl (0, 0)), (0, .inr (.inr (1, 57))), (1, .inl ((r : Int), (r : Int)))], [.inl (v, v), .inr (.inl (some s))], w, 0, 0)
    refine yreach.at (S' := (37, [(5, .inl (((i : Nat) : Int), ((i : Nat) : Int))), (3, .inr (.inl (some s))), (2, .inl (0, 0)), (0, .inr (.inr (1, 57))), (1, .inl ((r : Int), (r : Int)))], [.inr (.inl (some v)), .inr (.inl (some s))], w, 0, 0)) (q := _) rfl sx_i2l ?_
    refine yreach.at (S' := (38, [(5, .inl (((i : Nat) : Int), ((i : Nat) : Int))), (3, .inr (.inl (some s))), (2, .inl (0, 0)), (0, .inr (.inr (1, 57))), (1, .inl ((r : Int), (r : Int)))], [.inr (.inl (some (Int64.ofInt s + Int64.ofInt v).toInt))], w, 0, 0)) (q := _) rfl rfl ?_
    refine yreach.at (S' := (39, [(3, .inr (.inl (some (Int64.ofInt s + Int64.ofInt v).toInt))), (5, .inl (((i : Nat) : Int), ((i : Nat) : Int))), (2, .inl (0, 0)), (0, .inr (.inr (1, 57))), (1, .inl ((r : Int), (r : Int)))], [], w, 0, 0)) (q := _) rfl rfl ?_
    refine yreach.at (S' := (42, [(5, .inl ((((i : Nat) : Int) + 1), (((i : Nat) : Int) + 1))), (3, .inr (.inl (some (Int64.ofInt s + Int64.ofInt v).toInt))), (2, .inl (0, 0)), (0, .inr (.inr (1, 57))), (1, .inl ((r : Int), (r : Int)))], [], w, 0, 0)) (q := _) rfl (sx_iinc (z := 1) rfl (Nat.le_of_ble_eq_true rfl) (by omega)) ?_
    refine yreach.at (S' := (17, [(5, .inl ((((i : Nat) : Int) + 1), (((i : Nat) : Int) + 1))), (3, .inr (.inl (some (Int64.ofInt s + Int64.ofInt v).toInt))), (2, .inl (0, 0)), (0, .inr (.inr (1, 57))), (1, .inl ((r : Int), (r : Int)))], [], w, 0, 0)) (q := _) rfl rfl ?_
    exact zmmn_loop h4 hK hr hw g7 a1 a2 b1 hn he H m (i + 1) _ (by omega)
set_option maxHeartbeats 4000000 in
theorem zm_mean {ks : List Nat} {w : XW} {S T : ZS} (hU : zU ks w S T) {a : Int} : ∃ w', XMet l D vwCl (tysX tA) tA ex (xSTX ++ [sc]) xSV xNW xNF xTs xm167 [.inr (.inr (1, 57)), .inl (a, a)] w (some (.inl ((zMnA T a), (zMnA T a)))) w' ∧ zU ks w' S T := by
  obtain ⟨fs, hw, g7, g8, g9, g10, g11⟩ := zf57 hU.1 hU.2.1
  by_cases ha : 0 ≤ a ∧ a < 6
  · obtain ⟨r, rfl⟩ : ∃ r : Nat, a = (r : Int) := ⟨a.toNat, by omega⟩
    have hr : r < 6 := by omega
    obtain ⟨sz, es, a1, a2, a3, a4, a5⟩ := hU.2.2.2.1
    obtain ⟨z, b1, b2⟩ := a5 r hr
    have n0 : ¬ ((r : Int) < 0 ∨ 6 ≤ (r : Int)) := by omega
    have eA : zMnA T (r : Int) = (match T (0 + r) with
      | none => -3
      | some L => if L.length = 0 then -3 else 1) := if_neg n0
    rw [eA]
    cases hS : T (0 + r) with
    | none =>
      obtain ⟨w2, m2, hU2⟩ := zask_row_m (l := l) (D := D) (tA := tA) (ex := ex) (sc := sc) hU hr hS
      refine ⟨w2, zex (j := 167) rfl (Nat.le_of_ble_eq_true rfl) ?_, hU2⟩
      refine yreach.at (S' := (1, [(0, .inr (.inr (1, 57))), (1, .inl ((r : Int), (r : Int)))], [.inr (.inr (1, 57))], w, 0, 0)) (q := _) rfl rfl ?_
      refine yreach.at (S' := (2, [(0, .inr (.inr (1, 57))), (1, .inl ((r : Int), (r : Int)))], [.inl ((r : Int), (r : Int)), .inr (.inr (1, 57))], w, 0, 0)) (q := _) rfl rfl ?_
      refine ycall_at (N := xm163) (ro := some (.inl (-3, -3))) (w' := w2) (recv := true) (i := .invokevirtual 165) (a := 163) (na := 2) (z := 0) rfl (fun _ => rfl) rfl m2 ⟨Nat.le_of_ble_eq_true rfl, Nat.le_of_ble_eq_true rfl, Nat.le_of_ble_eq_true rfl, Nat.le_of_ble_eq_true rfl, Nat.le_of_ble_eq_true rfl, Nat.le_of_ble_eq_true rfl, (xrecv_at (as := [.inl ((r : Int), (r : Int))]) hw)⟩ ?_
      show yreach (ySt sc xm167) (yJm l D tA ex sc xm167) (_) (5, [(0, .inr (.inr (1, 57))), (1, .inl ((r : Int), (r : Int)))], [.inl (-3, -3)], w2, 0, 0)
      refine yreach.at (S' := (6, [(2, .inl (-3, -3)), (0, .inr (.inr (1, 57))), (1, .inl ((r : Int), (r : Int)))], [], w2, 0, 0)) (q := _) rfl rfl ?_
      refine yreach.at (S' := (7, [(2, .inl (-3, -3)), (0, .inr (.inr (1, 57))), (1, .inl ((r : Int), (r : Int)))], [.inl (-3, -3)], w2, 0, 0)) (q := _) rfl rfl ?_
      refine yreach.at (S' := (10, [(2, .inl (-3, -3)), (0, .inr (.inr (1, 57))), (1, .inl ((r : Int), (r : Int)))], [], w2, 0, 0)) (q := _) rfl (sx_if (o := false) (zcmp xge_of (decide_eq_false (by omega)))) ?_
      refine yreach.at (S' := (11, [(2, .inl (-3, -3)), (0, .inr (.inr (1, 57))), (1, .inl ((r : Int), (r : Int)))], [.inl (-3, -3)], w2, 0, 0)) (q := _) rfl rfl ?_
      exact yreach.ret (q := (some (.inl (-3, -3)), w2, 0, 0)) ((xstep_at rfl).trans rfl) rfl
    | some L =>
      rw [hS] at b2
      have hL40 := b2.2.1
      have hzL := b2.1
      subst hzL
      dsimp only
      have he : ∀ i : Nat, i < L.length → ∃ v, es[40 * r + i]? = some (.inl (v, v)) := fun i hi => ⟨_, b2.2.2 i L[i] (List.getElem?_eq_getElem hi)⟩
      obtain ⟨ro, w', m1, m2⟩ := yco_of (l := l) (D := D) (tA := tA) (ex := ex) (sc := sc) (M := xm167) (j := 167) (as := [.inr (.inr (1, 57)), .inl ((r : Int), (r : Int))]) (w := w) (Post := fun p => p.1 = some (.inl ((if L.length = 0 then -3 else 1 : Int), (if L.length = 0 then -3 else 1 : Int))) ∧ p.2.2 = (0, 0) ∧ zU ks p.2.1 S T) rfl (Nat.le_of_ble_eq_true rfl) (fun p hp => hp.2.1) (by
        refine yreach.at (S' := (1, [(0, .inr (.inr (1, 57))), (1, .inl ((r : Int), (r : Int)))], [.inr (.inr (1, 57))], w, 0, 0)) (q := _) rfl rfl ?_
        refine yreach.at (S' := (2, [(0, .inr (.inr (1, 57))), (1, .inl ((r : Int), (r : Int)))], [.inl ((r : Int), (r : Int)), .inr (.inr (1, 57))], w, 0, 0)) (q := _) rfl rfl ?_
        refine ycall_at (N := xm163) (ro := some (.inl (0, 0))) (w' := w) (recv := true) (i := .invokevirtual 165) (a := 163) (na := 2) (z := 0) rfl (fun _ => rfl) rfl (zask_row_y hU hr hS) ⟨Nat.le_of_ble_eq_true rfl, Nat.le_of_ble_eq_true rfl, Nat.le_of_ble_eq_true rfl, Nat.le_of_ble_eq_true rfl, Nat.le_of_ble_eq_true rfl, Nat.le_of_ble_eq_true rfl, (xrecv_at (as := [.inl ((r : Int), (r : Int))]) hw)⟩ ?_
        show yreach (ySt sc xm167) (yJm l D tA ex sc xm167) (_) (5, [(0, .inr (.inr (1, 57))), (1, .inl ((r : Int), (r : Int)))], [.inl (0, 0)], w, 0, 0)
        refine yreach.at (S' := (6, [(2, .inl (0, 0)), (0, .inr (.inr (1, 57))), (1, .inl ((r : Int), (r : Int)))], [], w, 0, 0)) (q := _) rfl rfl ?_
        refine yreach.at (S' := (7, [(2, .inl (0, 0)), (0, .inr (.inr (1, 57))), (1, .inl ((r : Int), (r : Int)))], [.inl (0, 0)], w, 0, 0)) (q := _) rfl rfl ?_
        refine yreach.at (S' := (12, [(2, .inl (0, 0)), (0, .inr (.inr (1, 57))), (1, .inl ((r : Int), (r : Int)))], [], w, 0, 0)) (q := _) rfl (sx_if (o := true) (zcmp xge_of (decide_eq_true (by omega)))) ?_
        refine yreach.at (S' := (13, [(2, .inl (0, 0)), (0, .inr (.inr (1, 57))), (1, .inl ((r : Int), (r : Int)))], [.inr (.inl (some 0))], w, 0, 0)) (q := _) rfl rfl ?_
        refine yreach.at (S' := (14, [(3, .inr (.inl (some 0))), (2, .inl (0, 0)), (0, .inr (.inr (1, 57))), (1, .inl ((r : Int), (r : Int)))], [], w, 0, 0)) (q := _) rfl rfl ?_
        refine yreach.at (S' := (15, [(3, .inr (.inl (some 0))), (2, .inl (0, 0)), (0, .inr (.inr (1, 57))), (1, .inl ((r : Int), (r : Int)))], [.inl (0, 0)], w, 0, 0)) (q := _) rfl rfl ?_
        refine yreach.at (S' := (17, [(5, .inl (0, 0)), (3, .inr (.inl (some 0))), (2, .inl (0, 0)), (0, .inr (.inr (1, 57))), (1, .inl ((r : Int), (r : Int)))], [], w, 0, 0)) (q := _) rfl rfl ?_
        refine zmmn_loop (n := L.length) (sz := sz) (es := es) hU.1 hU.2.1 hr hw g7 a1 a2 b1 hL40 he (fun s => ?_) L.length 0 0 (Nat.zero_add _)
        by_cases h0 : L.length = 0
        · rw [if_pos h0]
          obtain ⟨w2, m2, hU2⟩ := zmeets (l := l) (D := D) (tA := tA) (ex := ex) (sc := sc) hU (v := 4) (by decide)
          refine yreach.at (S' := (46, [(5, .inl (((L.length : Nat) : Int), ((L.length : Nat) : Int))), (3, .inr (.inl (some s))), (2, .inl (0, 0)), (0, .inr (.inr (1, 57))), (1, .inl ((r : Int), (r : Int)))], [.inr (.inr (1, 57))], w, 0, 0)) (q := _) rfl rfl ?_
          refine yreach.at (S' := (49, [(5, .inl (((L.length : Nat) : Int), ((L.length : Nat) : Int))), (3, .inr (.inl (some s))), (2, .inl (0, 0)), (0, .inr (.inr (1, 57))), (1, .inl ((r : Int), (r : Int)))], [.inr (.inr (1, 59))], w, 0, 0)) (q := _) rfl (sx_get hw g7) ?_
          refine yreach.at (S' := (50, [(5, .inl (((L.length : Nat) : Int), ((L.length : Nat) : Int))), (3, .inr (.inl (some s))), (2, .inl (0, 0)), (0, .inr (.inr (1, 57))), (1, .inl ((r : Int), (r : Int)))], [.inl ((r : Int), (r : Int)), .inr (.inr (1, 59))], w, 0, 0)) (q := _) rfl rfl ?_
          refine yreach.at (S' := (51, [(5, .inl (((L.length : Nat) : Int), ((L.length : Nat) : Int))), (3, .inr (.inl (some s))), (2, .inl (0, 0)), (0, .inr (.inr (1, 57))), (1, .inl ((r : Int), (r : Int)))], [.inl ((L.length : Int), (L.length : Int))], w, 0, 0)) (q := _) rfl (sx_iald a1 (zread b1)) ?_
          refine yreach.at (S' := (54, [(5, .inl (((L.length : Nat) : Int), ((L.length : Nat) : Int))), (3, .inr (.inl (some s))), (2, .inl (0, 0)), (0, .inr (.inr (1, 57))), (1, .inl ((r : Int), (r : Int)))], [], w, 0, 0)) (q := _) rfl (sx_if (o := false) (zcmp xcne_of (decide_eq_false (by omega)))) ?_
          refine yreach.at (S' := (55, [(5, .inl (((L.length : Nat) : Int), ((L.length : Nat) : Int))), (3, .inr (.inl (some s))), (2, .inl (0, 0)), (0, .inr (.inr (1, 57))), (1, .inl ((r : Int), (r : Int)))], [.inr (.inr (1, 57))], w, 0, 0)) (q := _) rfl rfl ?_
          refine yreach.at (S' := (56, [(5, .inl (((L.length : Nat) : Int), ((L.length : Nat) : Int))), (3, .inr (.inl (some s))), (2, .inl (0, 0)), (0, .inr (.inr (1, 57))), (1, .inl ((r : Int), (r : Int)))], [.inl (4, 4), .inr (.inr (1, 57))], w, 0, 0)) (q := _) rfl rfl ?_
          refine ycall_at (N := xm161) (ro := some (.inl (-3, -3))) (w' := w2) (recv := true) (i := .invokevirtual 158) (a := 161) (na := 2) (z := 0) rfl (fun _ => rfl) rfl m2 ⟨Nat.le_of_ble_eq_true rfl, Nat.le_of_ble_eq_true rfl, Nat.le_of_ble_eq_true rfl, Nat.le_of_ble_eq_true rfl, Nat.le_of_ble_eq_true rfl, Nat.le_of_ble_eq_true rfl, (xrecv_at (as := [.inl (4, 4)]) hw)⟩ ?_
          show yreach (ySt sc xm167) (yJm l D tA ex sc xm167) (_) (59, [(5, .inl (((L.length : Nat) : Int), ((L.length : Nat) : Int))), (3, .inr (.inl (some s))), (2, .inl (0, 0)), (0, .inr (.inr (1, 57))), (1, .inl ((r : Int), (r : Int)))], [.inl (-3, -3)], w2, 0, 0)
          refine yreach.at (S' := (77, [(5, .inl (((L.length : Nat) : Int), ((L.length : Nat) : Int))), (3, .inr (.inl (some s))), (2, .inl (0, 0)), (0, .inr (.inr (1, 57))), (1, .inl ((r : Int), (r : Int)))], [.inl (-3, -3)], w2, 0, 0)) (q := _) rfl rfl ?_
          exact yreach.ret (q := (some (.inl (-3, -3)), w2, 0, 0)) ((xstep_at rfl).trans rfl) ⟨rfl, rfl, hU2⟩
        · rw [if_neg h0]
          refine yreach.at (S' := (46, [(5, .inl (((L.length : Nat) : Int), ((L.length : Nat) : Int))), (3, .inr (.inl (some s))), (2, .inl (0, 0)), (0, .inr (.inr (1, 57))), (1, .inl ((r : Int), (r : Int)))], [.inr (.inr (1, 57))], w, 0, 0)) (q := _) rfl rfl ?_
          refine yreach.at (S' := (49, [(5, .inl (((L.length : Nat) : Int), ((L.length : Nat) : Int))), (3, .inr (.inl (some s))), (2, .inl (0, 0)), (0, .inr (.inr (1, 57))), (1, .inl ((r : Int), (r : Int)))], [.inr (.inr (1, 59))], w, 0, 0)) (q := _) rfl (sx_get hw g7) ?_
          refine yreach.at (S' := (50, [(5, .inl (((L.length : Nat) : Int), ((L.length : Nat) : Int))), (3, .inr (.inl (some s))), (2, .inl (0, 0)), (0, .inr (.inr (1, 57))), (1, .inl ((r : Int), (r : Int)))], [.inl ((r : Int), (r : Int)), .inr (.inr (1, 59))], w, 0, 0)) (q := _) rfl rfl ?_
          refine yreach.at (S' := (51, [(5, .inl (((L.length : Nat) : Int), ((L.length : Nat) : Int))), (3, .inr (.inl (some s))), (2, .inl (0, 0)), (0, .inr (.inr (1, 57))), (1, .inl ((r : Int), (r : Int)))], [.inl ((L.length : Int), (L.length : Int))], w, 0, 0)) (q := _) rfl (sx_iald a1 (zread b1)) ?_
          refine yreach.at (S' := (62, [(5, .inl (((L.length : Nat) : Int), ((L.length : Nat) : Int))), (3, .inr (.inl (some s))), (2, .inl (0, 0)), (0, .inr (.inr (1, 57))), (1, .inl ((r : Int), (r : Int)))], [], w, 0, 0)) (q := _) rfl (sx_if (o := true) (zcmp xcne_of (decide_eq_true (by omega)))) ?_
          refine yreach.at (S' := (63, [(5, .inl (((L.length : Nat) : Int), ((L.length : Nat) : Int))), (3, .inr (.inl (some s))), (2, .inl (0, 0)), (0, .inr (.inr (1, 57))), (1, .inl ((r : Int), (r : Int)))], [.inr (.inr (1, 57))], w, 0, 0)) (q := _) rfl rfl ?_
          refine yreach.at (S' := (64, [(5, .inl (((L.length : Nat) : Int), ((L.length : Nat) : Int))), (3, .inr (.inl (some s))), (2, .inl (0, 0)), (0, .inr (.inr (1, 57))), (1, .inl ((r : Int), (r : Int)))], [.inr (.inl (some s)), .inr (.inr (1, 57))], w, 0, 0)) (q := _) rfl rfl ?_
          refine yreach.at (S' := (65, [(5, .inl (((L.length : Nat) : Int), ((L.length : Nat) : Int))), (3, .inr (.inl (some s))), (2, .inl (0, 0)), (0, .inr (.inr (1, 57))), (1, .inl ((r : Int), (r : Int)))], [.inr (.inr (1, 57)), .inr (.inl (some s)), .inr (.inr (1, 57))], w, 0, 0)) (q := _) rfl rfl ?_
          refine yreach.at (S' := (68, [(5, .inl (((L.length : Nat) : Int), ((L.length : Nat) : Int))), (3, .inr (.inl (some s))), (2, .inl (0, 0)), (0, .inr (.inr (1, 57))), (1, .inl ((r : Int), (r : Int)))], [.inr (.inr (1, 59)), .inr (.inl (some s)), .inr (.inr (1, 57))], w, 0, 0)) (q := _) rfl (sx_get hw g7) ?_
          refine yreach.at (S' := (69, [(5, .inl (((L.length : Nat) : Int), ((L.length : Nat) : Int))), (3, .inr (.inl (some s))), (2, .inl (0, 0)), (0, .inr (.inr (1, 57))), (1, .inl ((r : Int), (r : Int)))], [.inl ((r : Int), (r : Int)), .inr (.inr (1, 59)), .inr (.inl (some s)), .inr (.inr (1, 57))], w, 0, 0)) (q := _) rfl rfl ?_
          refine yreach.at (S' := (70, [(5, .inl (((L.length : Nat) : Int), ((L.length : Nat) : Int))), (3, .inr (.inl (some s))), (2, .inl (0, 0)), (0, .inr (.inr (1, 57))), (1, .inl ((r : Int), (r : Int)))], [.inl ((L.length : Int), (L.length : Int)), .inr (.inl (some s)), .inr (.inr (1, 57))], w, 0, 0)) (q := _) rfl (sx_iald a1 (zread b1)) ?_
          refine yreach.at (S' := (71, [(5, .inl (((L.length : Nat) : Int), ((L.length : Nat) : Int))), (3, .inr (.inl (some s))), (2, .inl (0, 0)), (0, .inr (.inr (1, 57))), (1, .inl ((r : Int), (r : Int)))], [.inr (.inl (some (L.length : Int))), .inr (.inl (some s)), .inr (.inr (1, 57))], w, 0, 0)) (q := _) rfl sx_i2l ?_
          refine yreach.at (S' := (72, [(5, .inl (((L.length : Nat) : Int), ((L.length : Nat) : Int))), (3, .inr (.inl (some s))), (2, .inl (0, 0)), (0, .inr (.inr (1, 57))), (1, .inl ((r : Int), (r : Int)))], [.inr (.inl (some (Int64.ofInt s / Int64.ofInt (L.length : Int)).toInt)), .inr (.inr (1, 57))], w, 0, 0)) (q := _) rfl (sx_ldiv (by omega)) ?_
          refine yreach.at (S' := (73, [(5, .inl (((L.length : Nat) : Int), ((L.length : Nat) : Int))), (3, .inr (.inl (some s))), (2, .inl (0, 0)), (0, .inr (.inr (1, 57))), (1, .inl ((r : Int), (r : Int)))], [.inl ((Int64.ofInt (Int64.ofInt s / Int64.ofInt (L.length : Int)).toInt).toInt32.toInt, (Int64.ofInt (Int64.ofInt s / Int64.ofInt (L.length : Int)).toInt).toInt32.toInt), .inr (.inr (1, 57))], w, 0, 0)) (q := _) rfl rfl ?_
          obtain ⟨w2, m2, hU2⟩ := zask1 (l := l) (D := D) (tA := tA) (ex := ex) (sc := sc) hU (v := (Int64.ofInt (Int64.ofInt s / Int64.ofInt (L.length : Int)).toInt).toInt32.toInt) (x_rng _)
          refine yreach.at (S' := (74, [(5, .inl (((L.length : Nat) : Int), ((L.length : Nat) : Int))), (3, .inr (.inl (some s))), (2, .inl (0, 0)), (0, .inr (.inr (1, 57))), (1, .inl ((r : Int), (r : Int)))], [.inl (1, 1), .inl ((Int64.ofInt (Int64.ofInt s / Int64.ofInt (L.length : Int)).toInt).toInt32.toInt, (Int64.ofInt (Int64.ofInt s / Int64.ofInt (L.length : Int)).toInt).toInt32.toInt), .inr (.inr (1, 57))], w, 0, 0)) (q := _) rfl rfl ?_
          refine ycall_at (N := xm168) (ro := some (.inl (1, 1))) (w' := w2) (recv := true) (i := .invokevirtual 172) (a := 168) (na := 3) (z := 0) rfl (fun _ => rfl) rfl m2 ⟨Nat.le_of_ble_eq_true rfl, Nat.le_of_ble_eq_true rfl, Nat.le_of_ble_eq_true rfl, Nat.le_of_ble_eq_true rfl, Nat.le_of_ble_eq_true rfl, Nat.le_of_ble_eq_true rfl, (xrecv_at (as := [.inl ((Int64.ofInt (Int64.ofInt s / Int64.ofInt (L.length : Int)).toInt).toInt32.toInt, (Int64.ofInt (Int64.ofInt s / Int64.ofInt (L.length : Int)).toInt).toInt32.toInt), .inl (1, 1)]) hw)⟩ ?_
          show yreach (ySt sc xm167) (yJm l D tA ex sc xm167) (_) (77, [(5, .inl (((L.length : Nat) : Int), ((L.length : Nat) : Int))), (3, .inr (.inl (some s))), (2, .inl (0, 0)), (0, .inr (.inr (1, 57))), (1, .inl ((r : Int), (r : Int)))], [.inl (1, 1)], w2, 0, 0)
          exact yreach.ret (q := (some (.inl (1, 1)), w2, 0, 0)) ((xstep_at rfl).trans rfl) ⟨rfl, rfl, hU2⟩)
      obtain ⟨e1, _, e3⟩ := m2
      have e1 : ro = _ := e1
      subst e1
      exact ⟨w', m1, e3⟩
  · have n1 : a < 0 ∨ 6 ≤ a := by omega
    rw [show zMnA T a = -1 from if_pos n1]
    refine ⟨w, zex (j := 167) rfl (Nat.le_of_ble_eq_true rfl) ?_, hU⟩
    refine yreach.at (S' := (1, [(0, .inr (.inr (1, 57))), (1, .inl (a, a))], [.inr (.inr (1, 57))], w, 0, 0)) (q := _) rfl rfl ?_
    refine yreach.at (S' := (2, [(0, .inr (.inr (1, 57))), (1, .inl (a, a))], [.inl (a, a), .inr (.inr (1, 57))], w, 0, 0)) (q := _) rfl rfl ?_
    refine ycall_at (N := xm163) (ro := some (.inl (-1, -1))) (w' := w) (recv := true) (i := .invokevirtual 165) (a := 163) (na := 2) (z := 0) rfl (fun _ => rfl) rfl (zask_row_n ha) ⟨Nat.le_of_ble_eq_true rfl, Nat.le_of_ble_eq_true rfl, Nat.le_of_ble_eq_true rfl, Nat.le_of_ble_eq_true rfl, Nat.le_of_ble_eq_true rfl, Nat.le_of_ble_eq_true rfl, (xrecv_at (as := [.inl (a, a)]) hw)⟩ ?_
    show yreach (ySt sc xm167) (yJm l D tA ex sc xm167) (_) (5, [(0, .inr (.inr (1, 57))), (1, .inl (a, a))], [.inl (-1, -1)], w, 0, 0)
    refine yreach.at (S' := (6, [(2, .inl (-1, -1)), (0, .inr (.inr (1, 57))), (1, .inl (a, a))], [], w, 0, 0)) (q := _) rfl rfl ?_
    refine yreach.at (S' := (7, [(2, .inl (-1, -1)), (0, .inr (.inr (1, 57))), (1, .inl (a, a))], [.inl (-1, -1)], w, 0, 0)) (q := _) rfl rfl ?_
    refine yreach.at (S' := (10, [(2, .inl (-1, -1)), (0, .inr (.inr (1, 57))), (1, .inl (a, a))], [], w, 0, 0)) (q := _) rfl (sx_if (o := false) (zcmp xge_of (decide_eq_false (by omega)))) ?_
    refine yreach.at (S' := (11, [(2, .inl (-1, -1)), (0, .inr (.inr (1, 57))), (1, .inl (a, a))], [.inl (-1, -1)], w, 0, 0)) (q := _) rfl rfl ?_
    exact yreach.ret (q := (some (.inl (-1, -1)), w, 0, 0)) ((xstep_at rfl).trans rfl) rfl
end YH
