/-! ===== by hand: say ===== -/
section YH
variable {l : Launch} {D : va_G} {tA : Nat → ClassId} {ex : List Nat} {sc : List XV}
set_option maxHeartbeats 4000000 in
theorem ysy_init {w : XW} {a b c d u : Int} : XMet l D vwCl (tysX tA) tA ex (xSTX ++ [sc]) xSV xNW xNF xTs xm85 [.inr (.inr (1, w.length)), .inl (a, a), .inl (b, b), .inl (c, c), .inl (d, d), .inr (.inl (some u))] (w ++ (.inl (8, [.inl (0, 0), .inl (0, 0), .inl (0, 0), .inl (0, 0), .inr (.inl (some 0)), .inr (.inr (0, 0)), .inr (.inr (0, 0))]) : XC) :: []) none (w ++ (.inl (8, [.inl (a, a), .inl (b, b), .inl (c, c), .inl (d, d), .inr (.inl (some u)), .inr (.inr (1, w.length + 1)), .inr (.inr (1, w.length + 2))]) : XC) :: [(.inr (0, [.inl (0, 0), .inl (0, 0), .inl (0, 0), .inl (0, 0), .inl (0, 0), .inl (0, 0)]) : XC), (.inr (0, [.inl (0, 0), .inl (0, 0), .inl (0, 0), .inl (0, 0), .inl (0, 0), .inl (0, 0)]) : XC)]) := by
  obtain ⟨q, m1, m2⟩ := yco_ofA (l := l) (D := D) (tA := tA) (ex := ex) (sc := sc) (M := xm85) (j := 85) (as := [.inr (.inr (1, w.length)), .inl (a, a), .inl (b, b), .inl (c, c), .inl (d, d), .inr (.inl (some u))]) (w := w ++ (.inl (8, [.inl (0, 0), .inl (0, 0), .inl (0, 0), .inl (0, 0), .inr (.inl (some 0)), .inr (.inr (0, 0)), .inr (.inr (0, 0))]) : XC) :: []) (Post := fun q => q = (none, w ++ (.inl (8, [.inl (a, a), .inl (b, b), .inl (c, c), .inl (d, d), .inr (.inl (some u)), .inr (.inr (1, w.length + 1)), .inr (.inr (1, w.length + 2))]) : XC) :: [(.inr (0, [.inl (0, 0), .inl (0, 0), .inl (0, 0), .inl (0, 0), .inl (0, 0), .inl (0, 0)]) : XC), (.inr (0, [.inl (0, 0), .inl (0, 0), .inl (0, 0), .inl (0, 0), .inl (0, 0), .inl (0, 0)]) : XC)], 2, 12)) rfl (Nat.le_of_ble_eq_true rfl) (fun q hq => by rw [hq]; exact ⟨Nat.le_refl _, Nat.le_refl _⟩) (by
    refine yreach.at (S' := (1, [(0, .inr (.inr (1, w.length))), (1, .inl (a, a)), (2, .inl (b, b)), (3, .inl (c, c)), (4, .inl (d, d)), (5, .inr (.inl (some u)))], [.inr (.inr (1, w.length))], w ++ (.inl (8, [.inl (0, 0), .inl (0, 0), .inl (0, 0), .inl (0, 0), .inr (.inl (some 0)), .inr (.inr (0, 0)), .inr (.inr (0, 0))]) : XC) :: [], 0, 0)) (q := _) rfl rfl ?_
    refine yreach.at (S' := (4, [(0, .inr (.inr (1, w.length))), (1, .inl (a, a)), (2, .inl (b, b)), (3, .inl (c, c)), (4, .inl (d, d)), (5, .inr (.inl (some u)))], [], w ++ (.inl (8, [.inl (0, 0), .inl (0, 0), .inl (0, 0), .inl (0, 0), .inr (.inl (some 0)), .inr (.inr (0, 0)), .inr (.inr (0, 0))]) : XC) :: [], 0, 0)) (q := _) rfl rfl ?_
    refine yreach.at (S' := (5, [(0, .inr (.inr (1, w.length))), (1, .inl (a, a)), (2, .inl (b, b)), (3, .inl (c, c)), (4, .inl (d, d)), (5, .inr (.inl (some u)))], [.inr (.inr (1, w.length))], w ++ (.inl (8, [.inl (0, 0), .inl (0, 0), .inl (0, 0), .inl (0, 0), .inr (.inl (some 0)), .inr (.inr (0, 0)), .inr (.inr (0, 0))]) : XC) :: [], 0, 0)) (q := _) rfl rfl ?_
    refine yreach.at (S' := (7, [(0, .inr (.inr (1, w.length))), (1, .inl (a, a)), (2, .inl (b, b)), (3, .inl (c, c)), (4, .inl (d, d)), (5, .inr (.inl (some u)))], [.inl (6, 6), .inr (.inr (1, w.length))], w ++ (.inl (8, [.inl (0, 0), .inl (0, 0), .inl (0, 0), .inl (0, 0), .inr (.inl (some 0)), .inr (.inr (0, 0)), .inr (.inr (0, 0))]) : XC) :: [], 0, 0)) (q := _) rfl rfl ?_
    refine yreach.at (S' := (9, [(0, .inr (.inr (1, w.length))), (1, .inl (a, a)), (2, .inl (b, b)), (3, .inl (c, c)), (4, .inl (d, d)), (5, .inr (.inl (some u)))], [.inr (.inr (1, w.length + 1)), .inr (.inr (1, w.length))], w ++ (.inl (8, [.inl (0, 0), .inl (0, 0), .inl (0, 0), .inl (0, 0), .inr (.inl (some 0)), .inr (.inr (0, 0)), .inr (.inr (0, 0))]) : XC) :: [(.inr (0, [.inl (0, 0), .inl (0, 0), .inl (0, 0), .inl (0, 0), .inl (0, 0), .inl (0, 0)]) : XC)], 1, 6)) (q := _) rfl (by
      show (some (.inl (9, _, .inr (.inr (1, List.length (α := XC) (w ++ (.inl (8, [.inl (0, 0), .inl (0, 0), .inl (0, 0), .inl (0, 0), .inr (.inl (some 0)), .inr (.inr (0, 0)), .inr (.inr (0, 0))]) : XC) :: []))) :: [.inr (.inr (1, w.length))], List.append (α := XC) (w ++ (.inl (8, [.inl (0, 0), .inl (0, 0), .inl (0, 0), .inl (0, 0), .inr (.inl (some 0)), .inr (.inr (0, 0)), .inr (.inr (0, 0))]) : XC) :: []) [(.inr (0, [.inl (0, 0), .inl (0, 0), .inl (0, 0), .inl (0, 0), .inl (0, 0), .inl (0, 0)]) : XC)], 1, 6)) : Option XR) = _
      rw [List.length_append]
      show (some (.inl (9, _, _, (w ++ (.inl (8, [.inl (0, 0), .inl (0, 0), .inl (0, 0), .inl (0, 0), .inr (.inl (some 0)), .inr (.inr (0, 0)), .inr (.inr (0, 0))]) : XC) :: [] : XW) ++ [(.inr (0, [.inl (0, 0), .inl (0, 0), .inl (0, 0), .inl (0, 0), .inl (0, 0), .inl (0, 0)]) : XC)], 1, 6)) : Option XR) = _
      rw [List.append_assoc]
      rfl) ?_
    refine yreach.at (S' := (12, [(0, .inr (.inr (1, w.length))), (1, .inl (a, a)), (2, .inl (b, b)), (3, .inl (c, c)), (4, .inl (d, d)), (5, .inr (.inl (some u)))], [], w ++ (.inl (8, [.inl (0, 0), .inl (0, 0), .inl (0, 0), .inl (0, 0), .inr (.inl (some 0)), .inr (.inr (1, w.length + 1)), .inr (.inr (0, 0))]) : XC) :: [(.inr (0, [.inl (0, 0), .inl (0, 0), .inl (0, 0), .inl (0, 0), .inl (0, 0), .inl (0, 0)]) : XC)], 1, 6)) (q := _) rfl (by exact sy_putA (ty := tyX8 5) (Nat.le_of_ble_eq_true rfl) rfl) ?_
    refine yreach.at (S' := (13, [(0, .inr (.inr (1, w.length))), (1, .inl (a, a)), (2, .inl (b, b)), (3, .inl (c, c)), (4, .inl (d, d)), (5, .inr (.inl (some u)))], [.inr (.inr (1, w.length))], w ++ (.inl (8, [.inl (0, 0), .inl (0, 0), .inl (0, 0), .inl (0, 0), .inr (.inl (some 0)), .inr (.inr (1, w.length + 1)), .inr (.inr (0, 0))]) : XC) :: [(.inr (0, [.inl (0, 0), .inl (0, 0), .inl (0, 0), .inl (0, 0), .inl (0, 0), .inl (0, 0)]) : XC)], 1, 6)) (q := _) rfl rfl ?_
    refine yreach.at (S' := (15, [(0, .inr (.inr (1, w.length))), (1, .inl (a, a)), (2, .inl (b, b)), (3, .inl (c, c)), (4, .inl (d, d)), (5, .inr (.inl (some u)))], [.inl (6, 6), .inr (.inr (1, w.length))], w ++ (.inl (8, [.inl (0, 0), .inl (0, 0), .inl (0, 0), .inl (0, 0), .inr (.inl (some 0)), .inr (.inr (1, w.length + 1)), .inr (.inr (0, 0))]) : XC) :: [(.inr (0, [.inl (0, 0), .inl (0, 0), .inl (0, 0), .inl (0, 0), .inl (0, 0), .inl (0, 0)]) : XC)], 1, 6)) (q := _) rfl rfl ?_
    refine yreach.at (S' := (17, [(0, .inr (.inr (1, w.length))), (1, .inl (a, a)), (2, .inl (b, b)), (3, .inl (c, c)), (4, .inl (d, d)), (5, .inr (.inl (some u)))], [.inr (.inr (1, w.length + 2)), .inr (.inr (1, w.length))], w ++ (.inl (8, [.inl (0, 0), .inl (0, 0), .inl (0, 0), .inl (0, 0), .inr (.inl (some 0)), .inr (.inr (1, w.length + 1)), .inr (.inr (0, 0))]) : XC) :: [(.inr (0, [.inl (0, 0), .inl (0, 0), .inl (0, 0), .inl (0, 0), .inl (0, 0), .inl (0, 0)]) : XC), (.inr (0, [.inl (0, 0), .inl (0, 0), .inl (0, 0), .inl (0, 0), .inl (0, 0), .inl (0, 0)]) : XC)], 2, 12)) (q := _) rfl (by
      show (some (.inl (17, _, .inr (.inr (1, List.length (α := XC) (w ++ (.inl (8, [.inl (0, 0), .inl (0, 0), .inl (0, 0), .inl (0, 0), .inr (.inl (some 0)), .inr (.inr (1, w.length + 1)), .inr (.inr (0, 0))]) : XC) :: [(.inr (0, [.inl (0, 0), .inl (0, 0), .inl (0, 0), .inl (0, 0), .inl (0, 0), .inl (0, 0)]) : XC)]))) :: [.inr (.inr (1, w.length))], List.append (α := XC) (w ++ (.inl (8, [.inl (0, 0), .inl (0, 0), .inl (0, 0), .inl (0, 0), .inr (.inl (some 0)), .inr (.inr (1, w.length + 1)), .inr (.inr (0, 0))]) : XC) :: [(.inr (0, [.inl (0, 0), .inl (0, 0), .inl (0, 0), .inl (0, 0), .inl (0, 0), .inl (0, 0)]) : XC)]) [(.inr (0, [.inl (0, 0), .inl (0, 0), .inl (0, 0), .inl (0, 0), .inl (0, 0), .inl (0, 0)]) : XC)], 2, 12)) : Option XR) = _
      rw [List.length_append]
      show (some (.inl (17, _, _, (w ++ (.inl (8, [.inl (0, 0), .inl (0, 0), .inl (0, 0), .inl (0, 0), .inr (.inl (some 0)), .inr (.inr (1, w.length + 1)), .inr (.inr (0, 0))]) : XC) :: [(.inr (0, [.inl (0, 0), .inl (0, 0), .inl (0, 0), .inl (0, 0), .inl (0, 0), .inl (0, 0)]) : XC)] : XW) ++ [(.inr (0, [.inl (0, 0), .inl (0, 0), .inl (0, 0), .inl (0, 0), .inl (0, 0), .inl (0, 0)]) : XC)], 2, 12)) : Option XR) = _
      rw [List.append_assoc]
      rfl) ?_
    refine yreach.at (S' := (20, [(0, .inr (.inr (1, w.length))), (1, .inl (a, a)), (2, .inl (b, b)), (3, .inl (c, c)), (4, .inl (d, d)), (5, .inr (.inl (some u)))], [], w ++ (.inl (8, [.inl (0, 0), .inl (0, 0), .inl (0, 0), .inl (0, 0), .inr (.inl (some 0)), .inr (.inr (1, w.length + 1)), .inr (.inr (1, w.length + 2))]) : XC) :: [(.inr (0, [.inl (0, 0), .inl (0, 0), .inl (0, 0), .inl (0, 0), .inl (0, 0), .inl (0, 0)]) : XC), (.inr (0, [.inl (0, 0), .inl (0, 0), .inl (0, 0), .inl (0, 0), .inl (0, 0), .inl (0, 0)]) : XC)], 2, 12)) (q := _) rfl (by exact sy_putA (ty := tyX8 6) (Nat.le_of_ble_eq_true rfl) rfl) ?_
    refine yreach.at (S' := (21, [(0, .inr (.inr (1, w.length))), (1, .inl (a, a)), (2, .inl (b, b)), (3, .inl (c, c)), (4, .inl (d, d)), (5, .inr (.inl (some u)))], [.inr (.inr (1, w.length))], w ++ (.inl (8, [.inl (0, 0), .inl (0, 0), .inl (0, 0), .inl (0, 0), .inr (.inl (some 0)), .inr (.inr (1, w.length + 1)), .inr (.inr (1, w.length + 2))]) : XC) :: [(.inr (0, [.inl (0, 0), .inl (0, 0), .inl (0, 0), .inl (0, 0), .inl (0, 0), .inl (0, 0)]) : XC), (.inr (0, [.inl (0, 0), .inl (0, 0), .inl (0, 0), .inl (0, 0), .inl (0, 0), .inl (0, 0)]) : XC)], 2, 12)) (q := _) rfl rfl ?_
    refine yreach.at (S' := (22, [(0, .inr (.inr (1, w.length))), (1, .inl (a, a)), (2, .inl (b, b)), (3, .inl (c, c)), (4, .inl (d, d)), (5, .inr (.inl (some u)))], [.inl (a, a), .inr (.inr (1, w.length))], w ++ (.inl (8, [.inl (0, 0), .inl (0, 0), .inl (0, 0), .inl (0, 0), .inr (.inl (some 0)), .inr (.inr (1, w.length + 1)), .inr (.inr (1, w.length + 2))]) : XC) :: [(.inr (0, [.inl (0, 0), .inl (0, 0), .inl (0, 0), .inl (0, 0), .inl (0, 0), .inl (0, 0)]) : XC), (.inr (0, [.inl (0, 0), .inl (0, 0), .inl (0, 0), .inl (0, 0), .inl (0, 0), .inl (0, 0)]) : XC)], 2, 12)) (q := _) rfl rfl ?_
    refine yreach.at (S' := (25, [(0, .inr (.inr (1, w.length))), (1, .inl (a, a)), (2, .inl (b, b)), (3, .inl (c, c)), (4, .inl (d, d)), (5, .inr (.inl (some u)))], [], w ++ (.inl (8, [.inl (a, a), .inl (0, 0), .inl (0, 0), .inl (0, 0), .inr (.inl (some 0)), .inr (.inr (1, w.length + 1)), .inr (.inr (1, w.length + 2))]) : XC) :: [(.inr (0, [.inl (0, 0), .inl (0, 0), .inl (0, 0), .inl (0, 0), .inl (0, 0), .inl (0, 0)]) : XC), (.inr (0, [.inl (0, 0), .inl (0, 0), .inl (0, 0), .inl (0, 0), .inl (0, 0), .inl (0, 0)]) : XC)], 2, 12)) (q := _) rfl (by exact sy_putA (ty := tyX8 0) (Nat.le_of_ble_eq_true rfl) rfl) ?_
    refine yreach.at (S' := (26, [(0, .inr (.inr (1, w.length))), (1, .inl (a, a)), (2, .inl (b, b)), (3, .inl (c, c)), (4, .inl (d, d)), (5, .inr (.inl (some u)))], [.inr (.inr (1, w.length))], w ++ (.inl (8, [.inl (a, a), .inl (0, 0), .inl (0, 0), .inl (0, 0), .inr (.inl (some 0)), .inr (.inr (1, w.length + 1)), .inr (.inr (1, w.length + 2))]) : XC) :: [(.inr (0, [.inl (0, 0), .inl (0, 0), .inl (0, 0), .inl (0, 0), .inl (0, 0), .inl (0, 0)]) : XC), (.inr (0, [.inl (0, 0), .inl (0, 0), .inl (0, 0), .inl (0, 0), .inl (0, 0), .inl (0, 0)]) : XC)], 2, 12)) (q := _) rfl rfl ?_
    refine yreach.at (S' := (27, [(0, .inr (.inr (1, w.length))), (1, .inl (a, a)), (2, .inl (b, b)), (3, .inl (c, c)), (4, .inl (d, d)), (5, .inr (.inl (some u)))], [.inl (b, b), .inr (.inr (1, w.length))], w ++ (.inl (8, [.inl (a, a), .inl (0, 0), .inl (0, 0), .inl (0, 0), .inr (.inl (some 0)), .inr (.inr (1, w.length + 1)), .inr (.inr (1, w.length + 2))]) : XC) :: [(.inr (0, [.inl (0, 0), .inl (0, 0), .inl (0, 0), .inl (0, 0), .inl (0, 0), .inl (0, 0)]) : XC), (.inr (0, [.inl (0, 0), .inl (0, 0), .inl (0, 0), .inl (0, 0), .inl (0, 0), .inl (0, 0)]) : XC)], 2, 12)) (q := _) rfl rfl ?_
    refine yreach.at (S' := (30, [(0, .inr (.inr (1, w.length))), (1, .inl (a, a)), (2, .inl (b, b)), (3, .inl (c, c)), (4, .inl (d, d)), (5, .inr (.inl (some u)))], [], w ++ (.inl (8, [.inl (a, a), .inl (b, b), .inl (0, 0), .inl (0, 0), .inr (.inl (some 0)), .inr (.inr (1, w.length + 1)), .inr (.inr (1, w.length + 2))]) : XC) :: [(.inr (0, [.inl (0, 0), .inl (0, 0), .inl (0, 0), .inl (0, 0), .inl (0, 0), .inl (0, 0)]) : XC), (.inr (0, [.inl (0, 0), .inl (0, 0), .inl (0, 0), .inl (0, 0), .inl (0, 0), .inl (0, 0)]) : XC)], 2, 12)) (q := _) rfl (by exact sy_putA (ty := tyX8 1) (Nat.le_of_ble_eq_true rfl) rfl) ?_
    refine yreach.at (S' := (31, [(0, .inr (.inr (1, w.length))), (1, .inl (a, a)), (2, .inl (b, b)), (3, .inl (c, c)), (4, .inl (d, d)), (5, .inr (.inl (some u)))], [.inr (.inr (1, w.length))], w ++ (.inl (8, [.inl (a, a), .inl (b, b), .inl (0, 0), .inl (0, 0), .inr (.inl (some 0)), .inr (.inr (1, w.length + 1)), .inr (.inr (1, w.length + 2))]) : XC) :: [(.inr (0, [.inl (0, 0), .inl (0, 0), .inl (0, 0), .inl (0, 0), .inl (0, 0), .inl (0, 0)]) : XC), (.inr (0, [.inl (0, 0), .inl (0, 0), .inl (0, 0), .inl (0, 0), .inl (0, 0), .inl (0, 0)]) : XC)], 2, 12)) (q := _) rfl rfl ?_
    refine yreach.at (S' := (32, [(0, .inr (.inr (1, w.length))), (1, .inl (a, a)), (2, .inl (b, b)), (3, .inl (c, c)), (4, .inl (d, d)), (5, .inr (.inl (some u)))], [.inl (c, c), .inr (.inr (1, w.length))], w ++ (.inl (8, [.inl (a, a), .inl (b, b), .inl (0, 0), .inl (0, 0), .inr (.inl (some 0)), .inr (.inr (1, w.length + 1)), .inr (.inr (1, w.length + 2))]) : XC) :: [(.inr (0, [.inl (0, 0), .inl (0, 0), .inl (0, 0), .inl (0, 0), .inl (0, 0), .inl (0, 0)]) : XC), (.inr (0, [.inl (0, 0), .inl (0, 0), .inl (0, 0), .inl (0, 0), .inl (0, 0), .inl (0, 0)]) : XC)], 2, 12)) (q := _) rfl rfl ?_
    refine yreach.at (S' := (35, [(0, .inr (.inr (1, w.length))), (1, .inl (a, a)), (2, .inl (b, b)), (3, .inl (c, c)), (4, .inl (d, d)), (5, .inr (.inl (some u)))], [], w ++ (.inl (8, [.inl (a, a), .inl (b, b), .inl (c, c), .inl (0, 0), .inr (.inl (some 0)), .inr (.inr (1, w.length + 1)), .inr (.inr (1, w.length + 2))]) : XC) :: [(.inr (0, [.inl (0, 0), .inl (0, 0), .inl (0, 0), .inl (0, 0), .inl (0, 0), .inl (0, 0)]) : XC), (.inr (0, [.inl (0, 0), .inl (0, 0), .inl (0, 0), .inl (0, 0), .inl (0, 0), .inl (0, 0)]) : XC)], 2, 12)) (q := _) rfl (by exact sy_putA (ty := tyX8 2) (Nat.le_of_ble_eq_true rfl) rfl) ?_
    refine yreach.at (S' := (36, [(0, .inr (.inr (1, w.length))), (1, .inl (a, a)), (2, .inl (b, b)), (3, .inl (c, c)), (4, .inl (d, d)), (5, .inr (.inl (some u)))], [.inr (.inr (1, w.length))], w ++ (.inl (8, [.inl (a, a), .inl (b, b), .inl (c, c), .inl (0, 0), .inr (.inl (some 0)), .inr (.inr (1, w.length + 1)), .inr (.inr (1, w.length + 2))]) : XC) :: [(.inr (0, [.inl (0, 0), .inl (0, 0), .inl (0, 0), .inl (0, 0), .inl (0, 0), .inl (0, 0)]) : XC), (.inr (0, [.inl (0, 0), .inl (0, 0), .inl (0, 0), .inl (0, 0), .inl (0, 0), .inl (0, 0)]) : XC)], 2, 12)) (q := _) rfl rfl ?_
    refine yreach.at (S' := (38, [(0, .inr (.inr (1, w.length))), (1, .inl (a, a)), (2, .inl (b, b)), (3, .inl (c, c)), (4, .inl (d, d)), (5, .inr (.inl (some u)))], [.inl (d, d), .inr (.inr (1, w.length))], w ++ (.inl (8, [.inl (a, a), .inl (b, b), .inl (c, c), .inl (0, 0), .inr (.inl (some 0)), .inr (.inr (1, w.length + 1)), .inr (.inr (1, w.length + 2))]) : XC) :: [(.inr (0, [.inl (0, 0), .inl (0, 0), .inl (0, 0), .inl (0, 0), .inl (0, 0), .inl (0, 0)]) : XC), (.inr (0, [.inl (0, 0), .inl (0, 0), .inl (0, 0), .inl (0, 0), .inl (0, 0), .inl (0, 0)]) : XC)], 2, 12)) (q := _) rfl rfl ?_
    refine yreach.at (S' := (41, [(0, .inr (.inr (1, w.length))), (1, .inl (a, a)), (2, .inl (b, b)), (3, .inl (c, c)), (4, .inl (d, d)), (5, .inr (.inl (some u)))], [], w ++ (.inl (8, [.inl (a, a), .inl (b, b), .inl (c, c), .inl (d, d), .inr (.inl (some 0)), .inr (.inr (1, w.length + 1)), .inr (.inr (1, w.length + 2))]) : XC) :: [(.inr (0, [.inl (0, 0), .inl (0, 0), .inl (0, 0), .inl (0, 0), .inl (0, 0), .inl (0, 0)]) : XC), (.inr (0, [.inl (0, 0), .inl (0, 0), .inl (0, 0), .inl (0, 0), .inl (0, 0), .inl (0, 0)]) : XC)], 2, 12)) (q := _) rfl (by exact sy_putA (ty := tyX8 3) (Nat.le_of_ble_eq_true rfl) rfl) ?_
    refine yreach.at (S' := (42, [(0, .inr (.inr (1, w.length))), (1, .inl (a, a)), (2, .inl (b, b)), (3, .inl (c, c)), (4, .inl (d, d)), (5, .inr (.inl (some u)))], [.inr (.inr (1, w.length))], w ++ (.inl (8, [.inl (a, a), .inl (b, b), .inl (c, c), .inl (d, d), .inr (.inl (some 0)), .inr (.inr (1, w.length + 1)), .inr (.inr (1, w.length + 2))]) : XC) :: [(.inr (0, [.inl (0, 0), .inl (0, 0), .inl (0, 0), .inl (0, 0), .inl (0, 0), .inl (0, 0)]) : XC), (.inr (0, [.inl (0, 0), .inl (0, 0), .inl (0, 0), .inl (0, 0), .inl (0, 0), .inl (0, 0)]) : XC)], 2, 12)) (q := _) rfl rfl ?_
    refine yreach.at (S' := (44, [(0, .inr (.inr (1, w.length))), (1, .inl (a, a)), (2, .inl (b, b)), (3, .inl (c, c)), (4, .inl (d, d)), (5, .inr (.inl (some u)))], [.inr (.inl (some u)), .inr (.inr (1, w.length))], w ++ (.inl (8, [.inl (a, a), .inl (b, b), .inl (c, c), .inl (d, d), .inr (.inl (some 0)), .inr (.inr (1, w.length + 1)), .inr (.inr (1, w.length + 2))]) : XC) :: [(.inr (0, [.inl (0, 0), .inl (0, 0), .inl (0, 0), .inl (0, 0), .inl (0, 0), .inl (0, 0)]) : XC), (.inr (0, [.inl (0, 0), .inl (0, 0), .inl (0, 0), .inl (0, 0), .inl (0, 0), .inl (0, 0)]) : XC)], 2, 12)) (q := _) rfl rfl ?_
    refine yreach.at (S' := (47, [(0, .inr (.inr (1, w.length))), (1, .inl (a, a)), (2, .inl (b, b)), (3, .inl (c, c)), (4, .inl (d, d)), (5, .inr (.inl (some u)))], [], w ++ (.inl (8, [.inl (a, a), .inl (b, b), .inl (c, c), .inl (d, d), .inr (.inl (some u)), .inr (.inr (1, w.length + 1)), .inr (.inr (1, w.length + 2))]) : XC) :: [(.inr (0, [.inl (0, 0), .inl (0, 0), .inl (0, 0), .inl (0, 0), .inl (0, 0), .inl (0, 0)]) : XC), (.inr (0, [.inl (0, 0), .inl (0, 0), .inl (0, 0), .inl (0, 0), .inl (0, 0), .inl (0, 0)]) : XC)], 2, 12)) (q := _) rfl (by exact sy_putA (ty := tyX8 4) (Nat.le_of_ble_eq_true rfl) rfl) ?_
    exact yreach.ret (q := (none, w ++ (.inl (8, [.inl (a, a), .inl (b, b), .inl (c, c), .inl (d, d), .inr (.inl (some u)), .inr (.inr (1, w.length + 1)), .inr (.inr (1, w.length + 2))]) : XC) :: [(.inr (0, [.inl (0, 0), .inl (0, 0), .inl (0, 0), .inl (0, 0), .inl (0, 0), .inl (0, 0)]) : XC), (.inr (0, [.inl (0, 0), .inl (0, 0), .inl (0, 0), .inl (0, 0), .inl (0, 0), .inl (0, 0)]) : XC)], 2, 12)) ((xstep_at rfl).trans rfl) rfl)
  subst m2
  exact m1
theorem ysp_words {ks : List Nat} {w : XW} (h : ysp ks w) (hu : ∀ p p' : Nat, ks[p]? = some 16 → ks[p']? = some 16 → p = p') {i0 p0 : Nat} {c0 t0 : Nat} {fs0 es0 : List XV} {n : Int} {v : XV} (hi : ks[i0]? = some 0) (hp : ks[p0]? = some 16) (hw : w[i0]? = some (.inl (c0, fs0))) (hwp : w[p0]? = some (.inr (t0, es0))) (hn0 : 0 ≤ n) (hnl : n.toNat < es0.length) (h10 : fs0[10]? = some (.inl (n, n))) (hv : v ≠ .inr (.inr (0, 0))) : ysp ks ((w.set p0 (.inr (t0, es0.set n.toNat v))).set i0 (.inl (c0, fs0.set 10 (.inl (n + 1, n + 1))))) := by
  obtain ⟨s1, s2, s3, s4, s5, s6, s7, s8⟩ := h
  have hne : p0 ≠ i0 := fun e => by
    rw [e, hi] at hp
    cases hp
  have hpl : p0 < w.length := (List.getElem?_eq_some_iff.mp hwp).1
  have hw1 : (w.set p0 (.inr (t0, es0.set n.toNat v)))[i0]? = some (.inl (c0, fs0)) := by
    rw [List.getElem?_set_ne hne]
    exact hw
  obtain ⟨a1, a2⟩ := yset_f (g := 10) (x := .inl (n + 1, n + 1)) hw1
  obtain ⟨b1, b2⟩ := yset_a (es1 := es0.set n.toNat v) hwp
  have hil : i0 < (w.set p0 (.inr (t0, es0.set n.toNat v))).length := (List.getElem?_eq_some_iff.mp hw1).1
  have h10l : 10 < fs0.length := (List.getElem?_eq_some_iff.mp h10).1
  have ar : ∀ (p k : Nat) (a : Nat × List XV), ks[p]? = some k → k ≠ 16 → ((w.set p0 (.inr (t0, es0.set n.toNat v))).set i0 (.inl (c0, fs0.set 10 (.inl (n + 1, n + 1)))))[p]? = some (.inr a) → w[p]? = some (.inr a) := fun p k a hk hk2 h => b2 p a (a2 p a h) (fun e => by
    rw [e, hp] at hk
    exact hk2 (Option.some.inj hk).symm)
  have ob : ∀ (i k c : Nat) (fs : List XV), ks[i]? = some k → ((w.set p0 (.inr (t0, es0.set n.toNat v))).set i0 (.inl (c0, fs0.set 10 (.inl (n + 1, n + 1)))))[i]? = some (.inl (c, fs)) → ∃ fs1, w[i]? = some (.inl (c, fs1)) ∧ ∀ f, (k = 0 → f ≠ 10) → fs1[f]? = fs[f]? := fun i k c fs hk h => by
    obtain ⟨fs1, e1, e2⟩ := a1 i c fs h
    refine ⟨fs1, b1 i _ e1, fun f hf => e2 f (fun e => hf ?_)⟩
    rw [e, hi] at hk
    exact (Option.some.inj hk).symm
  refine ⟨s1, s2, s3, s4, fun i p c fs m t es j h1 h2 h3 h4 h5 h6 => ?_, fun i p c fs m t es j h1 h2 h3 h4 h5 h6 => ?_, fun i c fs z h1 h2 h3 h4 => ?_, fun i p q c fs m t a u b j z h1 h2 h3 h4 h5 h6 h7 h8 h9 h10 => ?_⟩
  · have ep := hu p p0 h2 hp
    subst ep
    have h5' := a2 p _ h5
    rw [List.getElem?_set_self hpl] at h5'
    cases h5'
    by_cases hj : j = n.toNat
    · subst hj
      rw [List.getElem?_set_self hnl]
      exact fun e => hv (Option.some.inj e)
    · rw [List.getElem?_set_ne (fun e => hj e.symm)]
      by_cases ei : i = i0
      · subst ei
        rw [List.getElem?_set_self hil] at h3
        cases h3
        rw [List.getElem?_set_self h10l] at h4
        cases h4
        exact s5 i p c0 fs0 n t0 es0 j h1 h2 hw h10 hwp (by omega)
      · obtain ⟨fs1, e1, e2⟩ := a1 i c fs h3
        exact s5 i p c fs1 m t0 es0 j h1 h2 (b1 i _ e1) (by rw [e2 10 (fun e => absurd e ei)]; exact h4) hwp h6
  · obtain ⟨fs1, e1, e2⟩ := ob i 0 c fs h1 h3
    exact s6 i p c fs1 m t es j h1 h2 e1 (by rw [e2 11 (fun _ => by decide)]; exact h4) (ar p 20 _ h2 (by decide) h5) h6
  · obtain ⟨fs1, e1, e2⟩ := ob i 17 c fs h1 h2
    exact s7 i c fs1 z h1 e1 (by rw [e2 0 (fun e => by cases e)]; exact h3) (by rw [e2 3 (fun e => by cases e)]; exact h4)
  · obtain ⟨fs1, e1, e2⟩ := ob i 30 c fs h1 h4
    exact s8 i p q c fs1 m t a u b j z h1 h2 h3 e1 (by rw [e2 36 (fun e => by cases e)]; exact h5) (ar p 58 _ h2 (by decide) h6) (ar q 61 _ h3 (by decide) h7) h8 h9 h10
set_option maxHeartbeats 4000000 in
theorem ysy_174 {ks : List Nat} {w : XW} {i0 b0 : Nat} {b kd v f n : Int} (h4 : yheap yKD ks w) (hi : ks[i0]? = some 0) (hb : ks[b0]? = some 14) {fs : List XV} (hw0 : w[i0]? = some (.inl (9, fs))) (hn : fs[10]? = some (.inl (n, n))) (hn0 : 0 ≤ n) (hn1 : n ≤ 39) (hu : ∀ p p' : Nat, ks[p]? = some 16 → ks[p']? = some 16 → p = p') (hS : ∀ N : XM, xMT 86 = some N → yco l D tA ex sc N yD_505.2.1) {tk v1 cu : Int} (hb1 : 0 ≤ b ∧ b ≤ 5) (hkd : 0 ≤ kd ∧ kd ≤ 5) (ht : yrg tk) (hv1 : yrg v1) (hcu : ylng cu) (h3 : kd = 3 → 0 ≤ v1 ∧ v1 ≤ 4) : yreach (ySt sc xm82) (yJm l D tA ex sc xm82) (ypA ks 3 19) (174, [(0, .inr (.inr (1, i0))), (1, .inl (b, b)), (2, .inl (kd, kd)), (3, .inl (v, v)), (4, .inr (.inr (1, b0))), (5, .inl (f, f))], [.inr (.inr (1, w.length))], w ++ (.inl (8, [.inl (kd, kd), .inl (b, b), .inl (tk, tk), .inl (v1, v1), .inr (.inl (some cu)), .inr (.inr (1, w.length + 1)), .inr (.inr (1, w.length + 2))]) : XC) :: [(.inr (0, [.inl (0, 0), .inl (0, 0), .inl (0, 0), .inl (0, 0), .inl (0, 0), .inl (0, 0)]) : XC), (.inr (0, [.inl (0, 0), .inl (0, 0), .inl (0, 0), .inl (0, 0), .inl (0, 0), .inl (0, 0)]) : XC)], 3, 19) := by
  obtain ⟨fb, wb, lb, fbf⟩ := yheap_f h4 hb (show yKD 14 = some yK_14 from rfl)
  obtain ⟨vc, gc, cz, rfl, c0, c1, c2, c3⟩ := yfld h4 hb (show yKD 14 = some yK_14 from rfl) wb 2 rfl
  obtain ⟨vl, gl, hvl⟩ := yfld h4 hi (show yKD 0 = some yK_0 from rfl) hw0 4 rfl
  obtain ⟨p0, rfl, kp⟩ := yrf hvl
  have hl4 : w.length = ks.length := h4.1.1
  have hlw : ∀ (j : Nat) (c : XC) (tl : XW), w[j]? = some c → (w ++ tl)[j]? = some c := fun j c tl hj => by
    rw [List.getElem?_append_left (List.getElem?_eq_some_iff.mp hj).1]
    exact hj
  have f0l := (List.getElem?_eq_some_iff.mp hn).1
  have arr : ∀ (ks' : List Nat) (k : Nat), k = 18 ∨ k = 19 → ∃ d, yKD k = some d ∧ ycell ks' d (.inr (0, [.inl (0, 0), .inl (0, 0), .inl (0, 0), .inl (0, 0), .inl (0, 0), .inl (0, 0)]) : XC) := fun ks' k hk => by
    have el : ∀ (i : Nat) (x : XV), ([.inl (0, 0), .inl (0, 0), .inl (0, 0), .inl (0, 0), .inl (0, 0), .inl (0, 0)] : List XV)[i]? = some x → yany ks' [(0, -2147483648, 2147483647)] x := fun i x hx => by
      have hm := List.mem_of_getElem? hx
      simp at hm
      rw [hm]
      exact ⟨_, List.mem_cons_self, 0, rfl, by decide, by decide, by decide, by decide⟩
    rcases hk with rfl | rfl
    · exact ⟨yK_18, rfl, rfl, rfl, el⟩
    · exact ⟨yK_19, rfl, rfl, rfl, el⟩
  -- the two rows are made first (their kinds stand behind the word's)
  have hks : ∀ (j k : Nat), ks[j]? = some k → (ks ++ [17, 18, 19])[j]? = some k := fun j k hj => by
    rw [List.getElem?_append_left (List.getElem?_eq_some_iff.mp hj).1]
    exact hj
  have kw : ∀ (d k : Nat), ([17, 18, 19] : List Nat)[d]? = some k → (ks ++ [17, 18, 19])[w.length + d]? = some k := fun d k hd => by
    rw [hl4, List.getElem?_append_right (Nat.le_add_right _ _), Nat.add_sub_cancel_left]
    exact hd
  have hW2 : yheap yKD (ks ++ [17, 18, 19]) (w ++ (.inl (8, [.inl (kd, kd), .inl (b, b), .inl (tk, tk), .inl (v1, v1), .inr (.inl (some cu)), .inr (.inr (1, w.length + 1)), .inr (.inr (1, w.length + 2))]) : XC) :: [(.inr (0, [.inl (0, 0), .inl (0, 0), .inl (0, 0), .inl (0, 0), .inl (0, 0), .inl (0, 0)]) : XC), (.inr (0, [.inl (0, 0), .inl (0, 0), .inl (0, 0), .inl (0, 0), .inl (0, 0), .inl (0, 0)]) : XC)]) := yheap_news h4 rfl (fun d k hd => by
    match d, hd with
    | 0, hd =>
      cases hd
      refine ⟨rfl, yK_17, _, rfl, rfl, ⟨rfl, rfl, fun g es x hg hx => ?_⟩, fun _ n' fs' z' e1 e2 e3 => ?_⟩
      · match g, hg, hx with
        | 0, hg, hx =>
          cases hg
          cases hx
          exact ⟨_, List.mem_cons_self, kd, rfl, hkd.1, hkd.2, by omega, by omega⟩
        | 1, hg, hx =>
          cases hg
          cases hx
          exact ⟨_, List.mem_cons_self, b, rfl, hb1.1, hb1.2, by omega, by omega⟩
        | 2, hg, hx =>
          cases hg
          cases hx
          exact ⟨_, List.mem_cons_self, ytop_in ht⟩
        | 3, hg, hx =>
          cases hg
          cases hx
          exact ⟨_, List.mem_cons_self, ytop_in hv1⟩
        | 4, hg, hx =>
          cases hg
          cases hx
          exact ⟨_, List.mem_cons_self, ylany_in hcu⟩
        | 5, hg, hx =>
          cases hg
          cases hx
          exact ⟨_, List.mem_cons_self, Or.inr ⟨w.length + 1, rfl, kw 1 18 rfl⟩⟩
        | 6, hg, hx =>
          cases hg
          cases hx
          exact ⟨_, List.mem_cons_self, Or.inr ⟨w.length + 2, rfl, kw 2 19 rfl⟩⟩
        | g + 7, hg, hx => cases hg
      · cases e1
        have e2 : some (Sum.inl (kd, kd) : XV) = some (.inl (3, 3)) := e2
        have e3 : some (Sum.inl (v1, v1) : XV) = some (.inl (z', z')) := e3
        cases e3
        cases e2
        exact h3 rfl
    | 1, hd =>
      cases hd
      obtain ⟨dd, h1, h2⟩ := arr (ks ++ [17, 18, 19]) 18 (Or.inl rfl)
      exact ⟨rfl, dd, _, h1, rfl, h2, fun e => by cases e⟩
    | 2, hd =>
      cases hd
      obtain ⟨dd, h1, h2⟩ := arr (ks ++ [17, 18, 19]) 19 (Or.inr rfl)
      exact ⟨rfl, dd, _, h1, rfl, h2, fun e => by cases e⟩
    | d + 3, hd => cases hd)
  refine yreach.at (S' := (176, [(6, .inr (.inr (1, w.length))), (0, .inr (.inr (1, i0))), (1, .inl (b, b)), (2, .inl (kd, kd)), (3, .inl (v, v)), (4, .inr (.inr (1, b0))), (5, .inl (f, f))], [], w ++ (.inl (8, [.inl (kd, kd), .inl (b, b), .inl (tk, tk), .inl (v1, v1), .inr (.inl (some cu)), .inr (.inr (1, w.length + 1)), .inr (.inr (1, w.length + 2))]) : XC) :: [(.inr (0, [.inl (0, 0), .inl (0, 0), .inl (0, 0), .inl (0, 0), .inl (0, 0), .inl (0, 0)]) : XC), (.inr (0, [.inl (0, 0), .inl (0, 0), .inl (0, 0), .inl (0, 0), .inl (0, 0), .inl (0, 0)]) : XC)], 3, 19)) (q := _) rfl rfl ?_
  refine yreach.at (S' := (177, [(6, .inr (.inr (1, w.length))), (0, .inr (.inr (1, i0))), (1, .inl (b, b)), (2, .inl (kd, kd)), (3, .inl (v, v)), (4, .inr (.inr (1, b0))), (5, .inl (f, f))], [.inr (.inr (1, i0))], w ++ (.inl (8, [.inl (kd, kd), .inl (b, b), .inl (tk, tk), .inl (v1, v1), .inr (.inl (some cu)), .inr (.inr (1, w.length + 1)), .inr (.inr (1, w.length + 2))]) : XC) :: [(.inr (0, [.inl (0, 0), .inl (0, 0), .inl (0, 0), .inl (0, 0), .inl (0, 0), .inl (0, 0)]) : XC), (.inr (0, [.inl (0, 0), .inl (0, 0), .inl (0, 0), .inl (0, 0), .inl (0, 0), .inl (0, 0)]) : XC)], 3, 19)) (q := _) rfl rfl ?_
  refine yreach.at (S' := (179, [(6, .inr (.inr (1, w.length))), (0, .inr (.inr (1, i0))), (1, .inl (b, b)), (2, .inl (kd, kd)), (3, .inl (v, v)), (4, .inr (.inr (1, b0))), (5, .inl (f, f))], [.inr (.inr (1, w.length)), .inr (.inr (1, i0))], w ++ (.inl (8, [.inl (kd, kd), .inl (b, b), .inl (tk, tk), .inl (v1, v1), .inr (.inl (some cu)), .inr (.inr (1, w.length + 1)), .inr (.inr (1, w.length + 2))]) : XC) :: [(.inr (0, [.inl (0, 0), .inl (0, 0), .inl (0, 0), .inl (0, 0), .inl (0, 0), .inl (0, 0)]) : XC), (.inr (0, [.inl (0, 0), .inl (0, 0), .inl (0, 0), .inl (0, 0), .inl (0, 0), .inl (0, 0)]) : XC)], 3, 19)) (q := _) rfl rfl ?_
  refine yreach.at (S' := (181, [(6, .inr (.inr (1, w.length))), (0, .inr (.inr (1, i0))), (1, .inl (b, b)), (2, .inl (kd, kd)), (3, .inl (v, v)), (4, .inr (.inr (1, b0))), (5, .inl (f, f))], [.inr (.inr (1, b0)), .inr (.inr (1, w.length)), .inr (.inr (1, i0))], w ++ (.inl (8, [.inl (kd, kd), .inl (b, b), .inl (tk, tk), .inl (v1, v1), .inr (.inl (some cu)), .inr (.inr (1, w.length + 1)), .inr (.inr (1, w.length + 2))]) : XC) :: [(.inr (0, [.inl (0, 0), .inl (0, 0), .inl (0, 0), .inl (0, 0), .inl (0, 0), .inl (0, 0)]) : XC), (.inr (0, [.inl (0, 0), .inl (0, 0), .inl (0, 0), .inl (0, 0), .inl (0, 0), .inl (0, 0)]) : XC)], 3, 19)) (q := _) rfl rfl ?_
  refine yreach.at (S' := (184, [(6, .inr (.inr (1, w.length))), (0, .inr (.inr (1, i0))), (1, .inl (b, b)), (2, .inl (kd, kd)), (3, .inl (v, v)), (4, .inr (.inr (1, b0))), (5, .inl (f, f))], [.inl (cz, cz), .inr (.inr (1, w.length)), .inr (.inr (1, i0))], w ++ (.inl (8, [.inl (kd, kd), .inl (b, b), .inl (tk, tk), .inl (v1, v1), .inr (.inl (some cu)), .inr (.inr (1, w.length + 1)), .inr (.inr (1, w.length + 2))]) : XC) :: [(.inr (0, [.inl (0, 0), .inl (0, 0), .inl (0, 0), .inl (0, 0), .inl (0, 0), .inl (0, 0)]) : XC), (.inr (0, [.inl (0, 0), .inl (0, 0), .inl (0, 0), .inl (0, 0), .inl (0, 0), .inl (0, 0)]) : XC)], 3, 19)) (q := _) rfl (sx_get (hlw _ _ _ wb) gc) ?_
  obtain ⟨ro, w3, m1, hW3, _, _, _, hib, Ax, hAx, hans, _⟩ := hS xm86 rfl (ks ++ [17, 18, 19]) [.inr (.inr (1, i0)), .inr (.inr (1, w.length)), .inl (cz, cz)] (w ++ (.inl (8, [.inl (kd, kd), .inl (b, b), .inl (tk, tk), .inl (v1, v1), .inr (.inl (some cu)), .inr (.inr (1, w.length + 1)), .inr (.inr (1, w.length + 2))]) : XC) :: [(.inr (0, [.inl (0, 0), .inl (0, 0), .inl (0, 0), .inl (0, 0), .inl (0, 0), .inl (0, 0)]) : XC), (.inr (0, [.inl (0, 0), .inl (0, 0), .inl (0, 0), .inl (0, 0), .inl (0, 0), .inl (0, 0)]) : XC)]) [] ⟨_, _, rfl, Or.inr ⟨i0, rfl, hks _ _ hi⟩, _, _, rfl, Or.inr ⟨w.length, rfl, kw 0 17 rfl⟩, _, _, rfl, ⟨cz, rfl, c0, c1, c2, c3⟩, rfl⟩ hW2 rfl (fun g hg => by cases hg)
  have hro : ro = none := by
    rw [List.mem_singleton.mp hAx] at hans
    exact hans
  subst hro
  have hib := hib rfl
  refine ycall_at (N := xm86) (ro := none) (w' := w3) (recv := true) (i := .invokevirtual 273) (a := 86) (na := 3) (z := 0) rfl (fun _ => rfl) rfl m1 ⟨Nat.le_of_ble_eq_true rfl, Nat.le_of_ble_eq_true rfl, Nat.le_of_ble_eq_true rfl, Nat.le_of_ble_eq_true rfl, Nat.le_of_ble_eq_true rfl, Nat.le_of_ble_eq_true rfl, xrecv_at (as := [.inr (.inr (1, w.length)), .inl (cz, cz)]) (hlw _ _ _ hw0)⟩ ?_
  show yreach (ySt sc xm82) (yJm l D tA ex sc xm82) (ypA ks 3 19) (187, [(6, .inr (.inr (1, w.length))), (0, .inr (.inr (1, i0))), (1, .inl (b, b)), (2, .inl (kd, kd)), (3, .inl (v, v)), (4, .inr (.inr (1, b0))), (5, .inl (f, f))], [], w3, 3, 19)
  have w3i : w3[i0]? = some (.inl (9, fs)) := (hib i0 0 (hks _ _ hi) (Or.inl rfl)).trans (hlw _ _ _ hw0)
  obtain ⟨el, w3p, ll, al⟩ := yheap_a hW3 (hks _ _ kp) (show yKD 16 = some yK_16 from rfl)
  obtain ⟨fw, w3w, lw, _⟩ := yheap_f hW3 (kw 0 17 rfl) (show yKD 17 = some yK_17 from rfl)
  have w3w : w3[w.length]? = some (.inl (8, fw)) := w3w
  have hne3 : i0 ≠ p0 := fun e => by
    rw [e, kp] at hi
    cases hi
  have hnl : n.toNat < el.length := by
    rw [ll]
    show n.toNat < 40
    omega
  refine yreach.at (S' := (188, [(6, .inr (.inr (1, w.length))), (0, .inr (.inr (1, i0))), (1, .inl (b, b)), (2, .inl (kd, kd)), (3, .inl (v, v)), (4, .inr (.inr (1, b0))), (5, .inl (f, f))], [.inr (.inr (1, i0))], w3, 3, 19)) (q := _) rfl rfl ?_
  refine yreach.at (S' := (191, [(6, .inr (.inr (1, w.length))), (0, .inr (.inr (1, i0))), (1, .inl (b, b)), (2, .inl (kd, kd)), (3, .inl (v, v)), (4, .inr (.inr (1, b0))), (5, .inl (f, f))], [.inr (.inr (1, p0))], w3, 3, 19)) (q := _) rfl (sx_get w3i gl) ?_
  refine yreach.at (S' := (192, [(6, .inr (.inr (1, w.length))), (0, .inr (.inr (1, i0))), (1, .inl (b, b)), (2, .inl (kd, kd)), (3, .inl (v, v)), (4, .inr (.inr (1, b0))), (5, .inl (f, f))], [.inr (.inr (1, i0)), .inr (.inr (1, p0))], w3, 3, 19)) (q := _) rfl rfl ?_
  refine yreach.at (S' := (195, [(6, .inr (.inr (1, w.length))), (0, .inr (.inr (1, i0))), (1, .inl (b, b)), (2, .inl (kd, kd)), (3, .inl (v, v)), (4, .inr (.inr (1, b0))), (5, .inl (f, f))], [.inl (n, n), .inr (.inr (1, p0))], w3, 3, 19)) (q := _) rfl (sx_get w3i hn) ?_
  refine yreach.at (S' := (197, [(6, .inr (.inr (1, w.length))), (0, .inr (.inr (1, i0))), (1, .inl (b, b)), (2, .inl (kd, kd)), (3, .inl (v, v)), (4, .inr (.inr (1, b0))), (5, .inl (f, f))], [.inr (.inr (1, w.length)), .inl (n, n), .inr (.inr (1, p0))], w3, 3, 19)) (q := _) rfl rfl ?_
  refine yreach.at (S' := (198, [(6, .inr (.inr (1, w.length))), (0, .inr (.inr (1, i0))), (1, .inl (b, b)), (2, .inl (kd, kd)), (3, .inl (v, v)), (4, .inr (.inr (1, b0))), (5, .inl (f, f))], [], List.set (α := XC) w3 p0 (.inr (5, el.set n.toNat (.inr (.inr (1, w.length))))), 3, 19)) (q := _) rfl (by
    show xh_aast xTC 197 _ (.inr (.inr (1, w.length)) :: .inl (n, n) :: .inr (.inr (1, p0)) :: []) _ 3 19 = _
    unfold xh_aast
    dsimp only
    rw [if_pos ⟨rfl, rfl, rfl⟩, w3p, w3w]
    dsimp only
    rw [if_pos (show xTC 5 = some 8 from rfl), xwrite_ex hn0 hnl]) ?_
  have w4i : (List.set (α := XC) w3 p0 (.inr (5, el.set n.toNat (.inr (.inr (1, w.length))))))[i0]? = some (.inl (9, fs)) := by
    rw [List.getElem?_set_ne (fun e => hne3 e.symm)]
    exact w3i
  have hil : i0 < List.length (α := XC) (List.set (α := XC) w3 p0 (.inr (5, el.set n.toNat (.inr (.inr (1, w.length)))))) := (List.getElem?_eq_some_iff.mp w4i).1
  refine yreach.at (S' := (199, [(6, .inr (.inr (1, w.length))), (0, .inr (.inr (1, i0))), (1, .inl (b, b)), (2, .inl (kd, kd)), (3, .inl (v, v)), (4, .inr (.inr (1, b0))), (5, .inl (f, f))], [.inr (.inr (1, i0))], List.set (α := XC) w3 p0 (.inr (5, el.set n.toNat (.inr (.inr (1, w.length))))), 3, 19)) (q := _) rfl rfl ?_
  refine yreach.at (S' := (200, [(6, .inr (.inr (1, w.length))), (0, .inr (.inr (1, i0))), (1, .inl (b, b)), (2, .inl (kd, kd)), (3, .inl (v, v)), (4, .inr (.inr (1, b0))), (5, .inl (f, f))], [.inr (.inr (1, i0)), .inr (.inr (1, i0))], List.set (α := XC) w3 p0 (.inr (5, el.set n.toNat (.inr (.inr (1, w.length))))), 3, 19)) (q := _) rfl rfl ?_
  refine yreach.at (S' := (203, [(6, .inr (.inr (1, w.length))), (0, .inr (.inr (1, i0))), (1, .inl (b, b)), (2, .inl (kd, kd)), (3, .inl (v, v)), (4, .inr (.inr (1, b0))), (5, .inl (f, f))], [.inl (n, n), .inr (.inr (1, i0))], List.set (α := XC) w3 p0 (.inr (5, el.set n.toNat (.inr (.inr (1, w.length))))), 3, 19)) (q := _) rfl (sx_get w4i hn) ?_
  refine yreach.at (S' := (204, [(6, .inr (.inr (1, w.length))), (0, .inr (.inr (1, i0))), (1, .inl (b, b)), (2, .inl (kd, kd)), (3, .inl (v, v)), (4, .inr (.inr (1, b0))), (5, .inl (f, f))], [.inl (1, 1), .inl (n, n), .inr (.inr (1, i0))], List.set (α := XC) w3 p0 (.inr (5, el.set n.toNat (.inr (.inr (1, w.length))))), 3, 19)) (q := _) rfl rfl ?_
  refine yreach.at (S' := (205, [(6, .inr (.inr (1, w.length))), (0, .inr (.inr (1, i0))), (1, .inl (b, b)), (2, .inl (kd, kd)), (3, .inl (v, v)), (4, .inr (.inr (1, b0))), (5, .inl (f, f))], [.inl (n + 1, n + 1), .inr (.inr (1, i0))], List.set (α := XC) w3 p0 (.inr (5, el.set n.toNat (.inr (.inr (1, w.length))))), 3, 19)) (q := _) rfl (sx_iadd (by omega)) ?_
  refine yreach.at (S' := (208, [(6, .inr (.inr (1, w.length))), (0, .inr (.inr (1, i0))), (1, .inl (b, b)), (2, .inl (kd, kd)), (3, .inl (v, v)), (4, .inr (.inr (1, b0))), (5, .inl (f, f))], [], List.set (α := XC) (List.set (α := XC) w3 p0 (.inr (5, el.set n.toNat (.inr (.inr (1, w.length)))))) i0 (.inl (9, fs.set 10 (.inl (n + 1, n + 1)))), 3, 19)) (q := _) rfl (by exact sy_put (ty := tyX9 10) w4i f0l rfl) ?_
  refine yreach.at (S' := (209, [(6, .inr (.inr (1, w.length))), (0, .inr (.inr (1, i0))), (1, .inl (b, b)), (2, .inl (kd, kd)), (3, .inl (v, v)), (4, .inr (.inr (1, b0))), (5, .inl (f, f))], [.inr (.inr (1, i0))], List.set (α := XC) (List.set (α := XC) w3 p0 (.inr (5, el.set n.toNat (.inr (.inr (1, w.length)))))) i0 (.inl (9, fs.set 10 (.inl (n + 1, n + 1)))), 3, 19)) (q := _) rfl rfl ?_
  refine yreach.at (S' := (212, [(6, .inr (.inr (1, w.length))), (0, .inr (.inr (1, i0))), (1, .inl (b, b)), (2, .inl (kd, kd)), (3, .inl (v, v)), (4, .inr (.inr (1, b0))), (5, .inl (f, f))], [.inl (n + 1, n + 1)], List.set (α := XC) (List.set (α := XC) w3 p0 (.inr (5, el.set n.toNat (.inr (.inr (1, w.length)))))) i0 (.inl (9, fs.set 10 (.inl (n + 1, n + 1)))), 3, 19)) (q := _) rfl (sx_get (List.getElem?_set_self hil) (List.getElem?_set_self f0l)) ?_
  refine yreach.at (S' := (213, [(6, .inr (.inr (1, w.length))), (0, .inr (.inr (1, i0))), (1, .inl (b, b)), (2, .inl (kd, kd)), (3, .inl (v, v)), (4, .inr (.inr (1, b0))), (5, .inl (f, f))], [.inl (1, 1), .inl (n + 1, n + 1)], List.set (α := XC) (List.set (α := XC) w3 p0 (.inr (5, el.set n.toNat (.inr (.inr (1, w.length)))))) i0 (.inl (9, fs.set 10 (.inl (n + 1, n + 1)))), 3, 19)) (q := _) rfl rfl ?_
  obtain ⟨r, r1, r2, r3⟩ := xsub_ex (n + 1) 1
  refine yreach.at (S' := (214, [(6, .inr (.inr (1, w.length))), (0, .inr (.inr (1, i0))), (1, .inl (b, b)), (2, .inl (kd, kd)), (3, .inl (v, v)), (4, .inr (.inr (1, b0))), (5, .inl (f, f))], [.inl (r, r)], List.set (α := XC) (List.set (α := XC) w3 p0 (.inr (5, el.set n.toNat (.inr (.inr (1, w.length)))))) i0 (.inl (9, fs.set 10 (.inl (n + 1, n + 1)))), 3, 19)) (q := _) rfl (by
    show (some (.inl (214, _, .inl (xsub (n + 1, n + 1) (1, 1)) :: _, _, 3, 19)) : Option XR) = _
    rw [r1]) ?_
  refine yreach.ret (q := (some (.inl (r, r)), List.set (α := XC) (List.set (α := XC) w3 p0 (.inr (5, el.set n.toNat (.inr (.inr (1, w.length)))))) i0 (.inl (9, fs.set 10 (.inl (n + 1, n + 1)))), 3, 19)) ((xstep_at rfl).trans (by
    show xh_ret 0 (some .int) [.inl (r, r)] _ 3 19 = _
    unfold xh_ret
    dsimp only
    rw [if_pos ⟨rfl, rfl⟩])) ⟨Nat.le_refl _, Nat.le_refl _, ⟨r, rfl, r2⟩, [17, 18, 19], (fun k hk => by
      simp at hk
      rcases hk with rfl | rfl | rfl <;> rfl), ?_, ?_⟩
  · have h4a : yheap0 yKD (ks ++ [17, 18, 19]) (List.set (α := XC) w3 p0 (.inr (5, el.set n.toNat (.inr (.inr (1, w.length)))))) := yheap0_seta hW3 (hks _ _ kp) (show yKD 16 = some yK_16 from rfl) w3p ⟨_, List.mem_cons_self, Or.inr ⟨w.length, rfl, kw 0 17 rfl⟩⟩
    exact yheap0_setf' h4a (hks _ _ hi) (show yKD 0 = some yK_0 from rfl) w4i (f := 10) rfl ⟨_, List.mem_cons_self, n + 1, rfl, by omega, by omega, by omega, by omega⟩
  · refine ysp_words hW3.2 (fun p p' h1 h2 => ?_) (hks _ _ hi) (hks _ _ kp) w3i w3p hn0 hnl hn (fun e => by cases e)
    have lt : ∀ (p : Nat), (ks ++ [17, 18, 19])[p]? = some 16 → ks[p]? = some 16 := fun p hp => by
      by_cases hlt : p < ks.length
      · rw [List.getElem?_append_left hlt] at hp
        exact hp
      · rw [List.getElem?_append_right (by omega)] at hp
        have := List.mem_of_getElem? hp
        simp at this
    exact hu p p' (lt p h1) (lt p' h2)
set_option maxHeartbeats 4000000 in
theorem ysy_146 {ks : List Nat} {w : XW} {i0 b0 : Nat} {b kd v f n : Int} (h4 : yheap yKD ks w) (hi : ks[i0]? = some 0) (hb : ks[b0]? = some 14) {fs : List XV} (hw0 : w[i0]? = some (.inl (9, fs))) (hn : fs[10]? = some (.inl (n, n))) (hn0 : 0 ≤ n) (hn1 : n ≤ 39) (hu : ∀ p p' : Nat, ks[p]? = some 16 → ks[p']? = some 16 → p = p') (hS : ∀ N : XM, xMT 86 = some N → yco l D tA ex sc N yD_505.2.1) (hb1 : 0 ≤ b ∧ b ≤ 5) (hkd : 0 ≤ kd ∧ kd ≤ 5) (hv : yrg v) (h3 : kd = 3 → 0 ≤ v ∧ v ≤ 4) : yreach (ySt sc xm82) (yJm l D tA ex sc xm82) (ypA ks 3 19) (146, [(0, .inr (.inr (1, i0))), (1, .inl (b, b)), (2, .inl (kd, kd)), (3, .inl (v, v)), (4, .inr (.inr (1, b0))), (5, .inl (f, f))], [], w, 0, 0) := by
  obtain ⟨fb, wb, lb, fbf⟩ := yheap_f h4 hb (show yKD 14 = some yK_14 from rfl)
  obtain ⟨vu, gu, cu, rfl, u1, _⟩ := yfld h4 hb (show yKD 14 = some yK_14 from rfl) wb 4 rfl
  obtain ⟨vt, gt, tk, rfl, _, _, t3, t4⟩ := yfld h4 hi (show yKD 0 = some yK_0 from rfl) hw0 12 rfl
  have hlw : ∀ (j : Nat) (c : XC) (tl : XW), w[j]? = some c → (w ++ tl)[j]? = some c := fun j c tl hj => by
    rw [List.getElem?_append_left (List.getElem?_eq_some_iff.mp hj).1]
    exact hj
  refine yreach.at (S' := (149, [(0, .inr (.inr (1, i0))), (1, .inl (b, b)), (2, .inl (kd, kd)), (3, .inl (v, v)), (4, .inr (.inr (1, b0))), (5, .inl (f, f))], [.inr (.inr (1, w.length))], w ++ (.inl (8, [.inl (0, 0), .inl (0, 0), .inl (0, 0), .inl (0, 0), .inr (.inl (some 0)), .inr (.inr (0, 0)), .inr (.inr (0, 0))]) : XC) :: [], 1, 7)) (q := _) rfl rfl ?_
  refine yreach.at (S' := (150, [(0, .inr (.inr (1, i0))), (1, .inl (b, b)), (2, .inl (kd, kd)), (3, .inl (v, v)), (4, .inr (.inr (1, b0))), (5, .inl (f, f))], [.inr (.inr (1, w.length)), .inr (.inr (1, w.length))], w ++ (.inl (8, [.inl (0, 0), .inl (0, 0), .inl (0, 0), .inl (0, 0), .inr (.inl (some 0)), .inr (.inr (0, 0)), .inr (.inr (0, 0))]) : XC) :: [], 1, 7)) (q := _) rfl rfl ?_
  refine yreach.at (S' := (151, [(0, .inr (.inr (1, i0))), (1, .inl (b, b)), (2, .inl (kd, kd)), (3, .inl (v, v)), (4, .inr (.inr (1, b0))), (5, .inl (f, f))], [.inl (kd, kd), .inr (.inr (1, w.length)), .inr (.inr (1, w.length))], w ++ (.inl (8, [.inl (0, 0), .inl (0, 0), .inl (0, 0), .inl (0, 0), .inr (.inl (some 0)), .inr (.inr (0, 0)), .inr (.inr (0, 0))]) : XC) :: [], 1, 7)) (q := _) rfl rfl ?_
  refine yreach.at (S' := (152, [(0, .inr (.inr (1, i0))), (1, .inl (b, b)), (2, .inl (kd, kd)), (3, .inl (v, v)), (4, .inr (.inr (1, b0))), (5, .inl (f, f))], [.inl (b, b), .inl (kd, kd), .inr (.inr (1, w.length)), .inr (.inr (1, w.length))], w ++ (.inl (8, [.inl (0, 0), .inl (0, 0), .inl (0, 0), .inl (0, 0), .inr (.inl (some 0)), .inr (.inr (0, 0)), .inr (.inr (0, 0))]) : XC) :: [], 1, 7)) (q := _) rfl rfl ?_
  refine yreach.at (S' := (153, [(0, .inr (.inr (1, i0))), (1, .inl (b, b)), (2, .inl (kd, kd)), (3, .inl (v, v)), (4, .inr (.inr (1, b0))), (5, .inl (f, f))], [.inr (.inr (1, i0)), .inl (b, b), .inl (kd, kd), .inr (.inr (1, w.length)), .inr (.inr (1, w.length))], w ++ (.inl (8, [.inl (0, 0), .inl (0, 0), .inl (0, 0), .inl (0, 0), .inr (.inl (some 0)), .inr (.inr (0, 0)), .inr (.inr (0, 0))]) : XC) :: [], 1, 7)) (q := _) rfl rfl ?_
  refine yreach.at (S' := (156, [(0, .inr (.inr (1, i0))), (1, .inl (b, b)), (2, .inl (kd, kd)), (3, .inl (v, v)), (4, .inr (.inr (1, b0))), (5, .inl (f, f))], [.inl (tk, tk), .inl (b, b), .inl (kd, kd), .inr (.inr (1, w.length)), .inr (.inr (1, w.length))], w ++ (.inl (8, [.inl (0, 0), .inl (0, 0), .inl (0, 0), .inl (0, 0), .inr (.inl (some 0)), .inr (.inr (0, 0)), .inr (.inr (0, 0))]) : XC) :: [], 1, 7)) (q := _) rfl (sx_get (hlw _ _ _ hw0) gt) ?_
  refine yreach.at (S' := (158, [(0, .inr (.inr (1, i0))), (1, .inl (b, b)), (2, .inl (kd, kd)), (3, .inl (v, v)), (4, .inr (.inr (1, b0))), (5, .inl (f, f))], [.inl (f, f), .inl (tk, tk), .inl (b, b), .inl (kd, kd), .inr (.inr (1, w.length)), .inr (.inr (1, w.length))], w ++ (.inl (8, [.inl (0, 0), .inl (0, 0), .inl (0, 0), .inl (0, 0), .inr (.inl (some 0)), .inr (.inr (0, 0)), .inr (.inr (0, 0))]) : XC) :: [], 1, 7)) (q := _) rfl rfl ?_
  by_cases hf : f = 0
  · refine yreach.at (S' := (165, [(0, .inr (.inr (1, i0))), (1, .inl (b, b)), (2, .inl (kd, kd)), (3, .inl (v, v)), (4, .inr (.inr (1, b0))), (5, .inl (f, f))], [.inl (tk, tk), .inl (b, b), .inl (kd, kd), .inr (.inr (1, w.length)), .inr (.inr (1, w.length))], w ++ (.inl (8, [.inl (0, 0), .inl (0, 0), .inl (0, 0), .inl (0, 0), .inr (.inl (some 0)), .inr (.inr (0, 0)), .inr (.inr (0, 0))]) : XC) :: [], 1, 7)) (q := _) rfl (sx_if (o := true) (xceq_of.trans (by rw [hf]; rfl))) ?_
    refine yreach.at (S' := (166, [(0, .inr (.inr (1, i0))), (1, .inl (b, b)), (2, .inl (kd, kd)), (3, .inl (v, v)), (4, .inr (.inr (1, b0))), (5, .inl (f, f))], [.inl (0, 0), .inl (tk, tk), .inl (b, b), .inl (kd, kd), .inr (.inr (1, w.length)), .inr (.inr (1, w.length))], w ++ (.inl (8, [.inl (0, 0), .inl (0, 0), .inl (0, 0), .inl (0, 0), .inr (.inl (some 0)), .inr (.inr (0, 0)), .inr (.inr (0, 0))]) : XC) :: [], 1, 7)) (q := _) rfl rfl ?_
    refine yreach.at (S' := (168, [(0, .inr (.inr (1, i0))), (1, .inl (b, b)), (2, .inl (kd, kd)), (3, .inl (v, v)), (4, .inr (.inr (1, b0))), (5, .inl (f, f))], [.inr (.inr (1, b0)), .inl (0, 0), .inl (tk, tk), .inl (b, b), .inl (kd, kd), .inr (.inr (1, w.length)), .inr (.inr (1, w.length))], w ++ (.inl (8, [.inl (0, 0), .inl (0, 0), .inl (0, 0), .inl (0, 0), .inr (.inl (some 0)), .inr (.inr (0, 0)), .inr (.inr (0, 0))]) : XC) :: [], 1, 7)) (q := _) rfl rfl ?_
    refine yreach.at (S' := (171, [(0, .inr (.inr (1, i0))), (1, .inl (b, b)), (2, .inl (kd, kd)), (3, .inl (v, v)), (4, .inr (.inr (1, b0))), (5, .inl (f, f))], [.inr (.inl (some cu)), .inl (0, 0), .inl (tk, tk), .inl (b, b), .inl (kd, kd), .inr (.inr (1, w.length)), .inr (.inr (1, w.length))], w ++ (.inl (8, [.inl (0, 0), .inl (0, 0), .inl (0, 0), .inl (0, 0), .inr (.inl (some 0)), .inr (.inr (0, 0)), .inr (.inr (0, 0))]) : XC) :: [], 1, 7)) (q := _) rfl (sx_get (hlw _ _ _ wb) gu) ?_
    refine ycall_at (N := xm85) (ro := none) (w' := w ++ (.inl (8, [.inl (kd, kd), .inl (b, b), .inl (tk, tk), .inl (0, 0), .inr (.inl (some cu)), .inr (.inr (1, w.length + 1)), .inr (.inr (1, w.length + 2))]) : XC) :: [(.inr (0, [.inl (0, 0), .inl (0, 0), .inl (0, 0), .inl (0, 0), .inl (0, 0), .inl (0, 0)]) : XC), (.inr (0, [.inl (0, 0), .inl (0, 0), .inl (0, 0), .inl (0, 0), .inl (0, 0), .inl (0, 0)]) : XC)]) (recv := true) (i := .invokespecial 270) (a := 85) (na := 6) (z := 0) rfl (fun _ => rfl) rfl ysy_init ⟨Nat.le_of_ble_eq_true rfl, Nat.le_of_ble_eq_true rfl, Nat.le_of_ble_eq_true rfl, Nat.le_of_ble_eq_true rfl, Nat.le_of_ble_eq_true rfl, Nat.le_of_ble_eq_true rfl, xrecv_at (as := [.inl (kd, kd), .inl (b, b), .inl (tk, tk), .inl (0, 0), .inr (.inl (some cu))]) yapp_at⟩ ?_
    exact ysy_174 h4 hi hb hw0 hn hn0 hn1 hu hS hb1 hkd ⟨t3, t4⟩ ⟨by decide, by decide⟩ u1 (fun _ => ⟨by decide, by decide⟩)
  · refine yreach.at (S' := (161, [(0, .inr (.inr (1, i0))), (1, .inl (b, b)), (2, .inl (kd, kd)), (3, .inl (v, v)), (4, .inr (.inr (1, b0))), (5, .inl (f, f))], [.inl (tk, tk), .inl (b, b), .inl (kd, kd), .inr (.inr (1, w.length)), .inr (.inr (1, w.length))], w ++ (.inl (8, [.inl (0, 0), .inl (0, 0), .inl (0, 0), .inl (0, 0), .inr (.inl (some 0)), .inr (.inr (0, 0)), .inr (.inr (0, 0))]) : XC) :: [], 1, 7)) (q := _) rfl (sx_if (o := false) (xceq_of.trans (by simp [hf]))) ?_
    refine yreach.at (S' := (162, [(0, .inr (.inr (1, i0))), (1, .inl (b, b)), (2, .inl (kd, kd)), (3, .inl (v, v)), (4, .inr (.inr (1, b0))), (5, .inl (f, f))], [.inl (v, v), .inl (tk, tk), .inl (b, b), .inl (kd, kd), .inr (.inr (1, w.length)), .inr (.inr (1, w.length))], w ++ (.inl (8, [.inl (0, 0), .inl (0, 0), .inl (0, 0), .inl (0, 0), .inr (.inl (some 0)), .inr (.inr (0, 0)), .inr (.inr (0, 0))]) : XC) :: [], 1, 7)) (q := _) rfl rfl ?_
    refine yreach.at (S' := (166, [(0, .inr (.inr (1, i0))), (1, .inl (b, b)), (2, .inl (kd, kd)), (3, .inl (v, v)), (4, .inr (.inr (1, b0))), (5, .inl (f, f))], [.inl (v, v), .inl (tk, tk), .inl (b, b), .inl (kd, kd), .inr (.inr (1, w.length)), .inr (.inr (1, w.length))], w ++ (.inl (8, [.inl (0, 0), .inl (0, 0), .inl (0, 0), .inl (0, 0), .inr (.inl (some 0)), .inr (.inr (0, 0)), .inr (.inr (0, 0))]) : XC) :: [], 1, 7)) (q := _) rfl rfl ?_
    refine yreach.at (S' := (168, [(0, .inr (.inr (1, i0))), (1, .inl (b, b)), (2, .inl (kd, kd)), (3, .inl (v, v)), (4, .inr (.inr (1, b0))), (5, .inl (f, f))], [.inr (.inr (1, b0)), .inl (v, v), .inl (tk, tk), .inl (b, b), .inl (kd, kd), .inr (.inr (1, w.length)), .inr (.inr (1, w.length))], w ++ (.inl (8, [.inl (0, 0), .inl (0, 0), .inl (0, 0), .inl (0, 0), .inr (.inl (some 0)), .inr (.inr (0, 0)), .inr (.inr (0, 0))]) : XC) :: [], 1, 7)) (q := _) rfl rfl ?_
    refine yreach.at (S' := (171, [(0, .inr (.inr (1, i0))), (1, .inl (b, b)), (2, .inl (kd, kd)), (3, .inl (v, v)), (4, .inr (.inr (1, b0))), (5, .inl (f, f))], [.inr (.inl (some cu)), .inl (v, v), .inl (tk, tk), .inl (b, b), .inl (kd, kd), .inr (.inr (1, w.length)), .inr (.inr (1, w.length))], w ++ (.inl (8, [.inl (0, 0), .inl (0, 0), .inl (0, 0), .inl (0, 0), .inr (.inl (some 0)), .inr (.inr (0, 0)), .inr (.inr (0, 0))]) : XC) :: [], 1, 7)) (q := _) rfl (sx_get (hlw _ _ _ wb) gu) ?_
    refine ycall_at (N := xm85) (ro := none) (w' := w ++ (.inl (8, [.inl (kd, kd), .inl (b, b), .inl (tk, tk), .inl (v, v), .inr (.inl (some cu)), .inr (.inr (1, w.length + 1)), .inr (.inr (1, w.length + 2))]) : XC) :: [(.inr (0, [.inl (0, 0), .inl (0, 0), .inl (0, 0), .inl (0, 0), .inl (0, 0), .inl (0, 0)]) : XC), (.inr (0, [.inl (0, 0), .inl (0, 0), .inl (0, 0), .inl (0, 0), .inl (0, 0), .inl (0, 0)]) : XC)]) (recv := true) (i := .invokespecial 270) (a := 85) (na := 6) (z := 0) rfl (fun _ => rfl) rfl ysy_init ⟨Nat.le_of_ble_eq_true rfl, Nat.le_of_ble_eq_true rfl, Nat.le_of_ble_eq_true rfl, Nat.le_of_ble_eq_true rfl, Nat.le_of_ble_eq_true rfl, Nat.le_of_ble_eq_true rfl, xrecv_at (as := [.inl (kd, kd), .inl (b, b), .inl (tk, tk), .inl (v, v), .inr (.inl (some cu))]) yapp_at⟩ ?_
    exact ysy_174 h4 hi hb hw0 hn hn0 hn1 hu hS hb1 hkd ⟨t3, t4⟩ hv u1 h3
def ysyC (i : Nat) : YCut := if i = 0 then (146, [(0, 1, (1, 0, 0)), (1, 1, (0, 0, 5)), (2, 1, (0, 0, 2)), (3, 1, (0, -2147483648, 2147483647)), (4, 1, (1, 14, 0)), (5, 1, (0, 0, 1))], [(0, 10, (0, 0, 39))], [], (0, []), []) else if i = 1 then (146, [(0, 1, (1, 0, 0)), (1, 1, (0, 0, 5)), (2, 1, (0, 3, 3)), (3, 1, (0, 0, 4)), (4, 1, (1, 14, 0)), (5, 1, (0, 0, 1))], [(0, 10, (0, 0, 39))], [], (0, []), []) else (146, [(0, 1, (1, 0, 0)), (1, 1, (0, 0, 5)), (2, 1, (0, 4, 5)), (3, 1, (0, -2147483648, 2147483647)), (4, 1, (1, 14, 0)), (5, 1, (0, 0, 1))], [(0, 10, (0, 0, 39))], [], (0, []), [])
def ysyL : List YD := [yD_32, yD_43, yD_503, yD_504]
theorem ysy_chk : ystp yKD 0 (yct yB ysyL) xMT xFT xSTX xm82 (ypst1 yiA) (yexp yKD 0 (yct yB ysyL) xMT xFT xSTX xm82 (ypst1 yiA) [ysyC 0, ysyC 1, ysyC 2] none 400) (yent ([(1, 0, 0), ytop, ytop, ytop], ([], []), 0, yiA) []) = true := by decide +kernel
/-- say: every run of it comes to an end, with at most three cells more -/
theorem ysay (hCT : ∀ (j : Nat) (N : XM) (C : YC), xMT j = some N → C ∈ yct yB ysyL j → yco l D tA ex sc N C) (hS : ∀ N : XM, xMT 86 = some N → yco l D tA ex sc N yD_505.2.1) {ks : List Nat} {w : XW} (h4 : yheap yKD ks w) (hu : ∀ p p' : Nat, ks[p]? = some 16 → ks[p']? = some 16 → p = p') {i0 : Nat} (hi : ks[i0]? = some 0) {b kd v : Int} (hb : yrg b) (hkd : yrg kd) (hv : yrg v) : ∃ q, XMet l D vwCl (tysX tA) tA ex (xSTX ++ [sc]) xSV xNW xNF xTs xm82 [.inr (.inr (1, i0)), .inl (b, b), .inl (kd, kd), .inl (v, v)] w q.1 q.2.1 ∧ ypA ks 3 19 q := by
  -- from one of the three cuts
  have go : ∀ (k0 k1 v0 v1 : Int), 0 ≤ k0 → k1 ≤ 5 → (k0 ≤ 3 → 3 ≤ k1 → 0 ≤ v0 ∧ v1 ≤ 4) → ∀ (r : YR) (w1 : XW) (S : XS), ysat yKD ks (yow ks 0 w) w1 r (yst (146, [(0, 1, (1, 0, 0)), (1, 1, (0, 0, 5)), (2, 1, (0, k0, k1)), (3, 1, (0, v0, v1)), (4, 1, (1, 14, 0)), (5, 1, (0, 0, 1))], [(0, 10, (0, 0, 39))], [], (0, []), [])) S → yreach (ySt sc xm82) (yJm l D tA ex sc xm82) (ypA ks 3 19) S := fun k0 k1 v0 v1 hk0 hk1 hv3 r w1 S hS' => by
    obtain ⟨lv, st, e0, ⟨x0, l0, e1, ⟨a1, q1, _⟩, x1, l1, e2, a2, x2, l2, e3, a3, x3, l3, e4, a4, x4, l4, e5, ⟨a5, q5, _⟩, x5, l5, e6, a6, e7⟩, h2, h3, h41, _⟩ := hS'
    have h2 : st = [] := h2
    have e7 : l5 = [] := e7
    subst h2
    subst e7
    subst e6
    subst e5
    subst e4
    subst e3
    subst e2
    subst e1
    subst e0
    -- an int of a cut
    have iv : ∀ (s : Nat) (lo hi z : Int) (x : XV), r s = .inl (z, z) → lo ≤ z → z ≤ hi → yvin r (ycv 1 (0, lo, hi) s) x → x = .inl (z, z) := fun s lo hi z x hr h1 h2 hx => by
      unfold ycv at hx
      rw [if_pos rfl] at hx
      split at hx
      · rename_i hlh
        have e : x = .inl (yev (yi r) (ycst (1 * lo)), yev (yi r) (ycst (1 * lo))) := hx.1
        dsimp only at hlh
        rw [e, ycst_ev, show 1 * lo = z by omega]
      · have e : x = .inl (0 + (1 * yi r s + 0), 0 + (1 * yi r s + 0)) := hx.1
        rw [e, yi_int hr, show 0 + (1 * z + 0) = z by omega]
    obtain ⟨j0, g1, g2⟩ := yrf (h3.1 0 (1, 0, 0) rfl)
    obtain ⟨z1, b1, b2, b3, _⟩ := h3.1 1 (0, 0, 5) rfl
    obtain ⟨z2, c1, c2, c3, _⟩ := h3.1 2 (0, k0, k1) rfl
    obtain ⟨z3, d1, d2, d3, d4, d5⟩ := h3.1 3 (0, v0, v1) rfl
    obtain ⟨j4, g8, g9⟩ := yrf (h3.1 4 (1, 14, 0) rfl)
    obtain ⟨z5, f1, f2, f3, _⟩ := h3.1 5 (0, 0, 1) rfl
    obtain ⟨n, n1, n2, n3, _⟩ := h3.1 6 (0, 0, 39) rfl
    obtain ⟨x, x1', x2'⟩ := h3.2.2.1 ((0, 10), ysv (0, 0, 39) 6) List.mem_cons_self
    obtain ⟨c, fs, y1, y2⟩ := ygf_ref g1 (by decide) x1'
    obtain ⟨fs', y3, _⟩ := yheap_f h41 g2 (show yKD 0 = some yK_0 from rfl)
    rw [y1] at y3
    cases y3
    have ex : x = .inl (n, n) := by
      have e6 : x = .inl (yev (yi r) (ysym 6), yev (yi r) (ysym 6)) := x2'.1
      rw [e6, ysym_ev, yi_int n1]
    rw [ex] at y2
    rw [a1, g1, a5, g8, iv 1 0 5 z1 x1 b1 b2 b3 a2, iv 2 k0 k1 z2 x2 c1 c2 c3 a3, iv 3 v0 v1 z3 x3 d1 d2 d3 a4, iv 5 0 1 z5 x5 f1 f2 f3 a6]
    exact ysy_146 h41 g2 g9 y1 y2 n2 n3 hu hS ⟨b2, b3⟩ ⟨by omega, by omega⟩ ⟨d4, d5⟩ (fun e => by
      have := hv3 (by omega) (by omega)
      omega)
  refine yco_ofA (j := 82) rfl (Nat.le_of_ble_eq_true rfl) (fun q hq => ⟨hq.1, hq.2.1⟩) (ywalk_exit hCT ysy_chk ⟨_, _, rfl, Or.inr ⟨i0, rfl, hi⟩, _, _, rfl, ytop_in hb, _, _, rfl, ytop_in hkd, _, _, rfl, ytop_in hv, rfl⟩ h4 (fun C hC r w1 S hS' => ?_))
  rcases List.mem_cons.mp hC with hC | hC
  · subst hC
    exact go 0 2 _ _ (by decide) (by decide) (fun _ h => absurd h (by decide)) r w1 S hS'
  · rcases List.mem_cons.mp hC with hC | hC
    · subst hC
      exact go 3 3 0 4 (by decide) (by decide) (fun _ _ => ⟨by decide, by decide⟩) r w1 S hS'
    · rw [List.mem_singleton.mp hC] at hS'
      exact go 4 5 _ _ (by decide) (by decide) (fun h => absurd h (by decide)) r w1 S hS'
end YH
