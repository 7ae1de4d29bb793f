/-! ===== by hand: the model's share ===== -/
theorem y_rem64 {x y : Int} (hx : ylng x) (hy : ylng y) (h0 : y ≠ 0) : (Int64.ofInt x - Int64.ofInt x / Int64.ofInt y * Int64.ofInt y).toInt = x.tmod y := by
  rw [Int64.toInt_sub, Int64.toInt_mul, Int64.toInt_div, y_of64 hx, y_of64 hy, Int.bmod_mul_bmod, Int.sub_bmod_bmod]
  have e : x - x.tdiv y * y = x.tmod y := by
    have := Int.tmod_add_mul_tdiv x y
    rw [Int.mul_comm] at this
    omega
  rw [e]
  have h1 : (x.tmod y).natAbs < y.natAbs := by
    rw [Int.natAbs_tmod]
    exact Nat.mod_lt _ (Int.natAbs_pos.mpr h0)
  obtain ⟨a1, a2⟩ := hy
  exact Int.bmod_eq_of_le (by omega) (by omega)
section YH
variable {l : Launch} {D : va_G} {tA : Nat → ClassId} {ex : List Nat} {sc : List XV}
theorem ysh_loop {m : Nat} {u lo : Int} {w : XW} {Post : Option XV × XW × Nat × Nat → Prop} (H : ∀ x, ylng x → x ≠ 0 → yreach (ySt sc xm240) (yJm l D tA ex sc xm240) Post (31, [(0, .inr (.inr (1, m))), (1, .inr (.inl (some u))), (3, .inr (.inl (some lo))), (5, .inr (.inl (some x)))], [], w, 0, 0)) : ∀ (n : Nat) (x y : Int), ylng x → ylng y → y.natAbs < n → (y = 0 → x ≠ 0) → yreach (ySt sc xm240) (yJm l D tA ex sc xm240) Post (6, [(5, .inr (.inl (some x))), (7, .inr (.inl (some y))), (0, .inr (.inr (1, m))), (1, .inr (.inl (some u))), (3, .inr (.inl (some lo)))], [], w, 0, 0)
  | 0, _, _, _, _, h, _ => by omega
  | n + 1, x, y, hx, hy, hn, h0 => by
    refine yreach.at (S' := (8, [(5, .inr (.inl (some x))), (7, .inr (.inl (some y))), (0, .inr (.inr (1, m))), (1, .inr (.inl (some u))), (3, .inr (.inl (some lo)))], [.inr (.inl (some y))], w, 0, 0)) (q := _) rfl rfl ?_
    refine yreach.at (S' := (9, [(5, .inr (.inl (some x))), (7, .inr (.inl (some y))), (0, .inr (.inr (1, m))), (1, .inr (.inl (some u))), (3, .inr (.inl (some lo)))], [.inr (.inl (some 0)), .inr (.inl (some y))], w, 0, 0)) (q := _) rfl rfl ?_
    refine yreach.at (S' := (10, [(5, .inr (.inl (some x))), (7, .inr (.inl (some y))), (0, .inr (.inr (1, m))), (1, .inr (.inl (some u))), (3, .inr (.inl (some lo)))], [.inl (ysgn y 0, ysgn y 0)], w, 0, 0)) (q := _) rfl rfl ?_
    by_cases hy0 : y = 0
    · have hs : ysgn y 0 = 0 := by
        rw [hy0]
        rfl
      refine yreach.at (S' := (31, [(5, .inr (.inl (some x))), (7, .inr (.inl (some y))), (0, .inr (.inr (1, m))), (1, .inr (.inl (some u))), (3, .inr (.inl (some lo)))], [], w, 0, 0)) (q := _) rfl (sx_if (o := true) (xceq_of.trans (by rw [hs]; rfl))) ?_
      exact yreach.sub (by simp) (H x hx (h0 hy0))
    · have hs : ysgn y 0 ≠ 0 := by
        unfold ysgn
        by_cases h1 : y < 0
        · rw [if_pos h1]
          decide
        · rw [if_neg h1, if_neg hy0]
          decide
      have e := y_rem64 hx hy hy0
      have hl : ylng (x.tmod y) := by
        rw [← e]
        exact ylng_64 _
      have hlt : (x.tmod y).natAbs < y.natAbs := by
        rw [Int.natAbs_tmod]
        exact Nat.mod_lt _ (Int.natAbs_pos.mpr hy0)
      refine yreach.at (S' := (13, [(5, .inr (.inl (some x))), (7, .inr (.inl (some y))), (0, .inr (.inr (1, m))), (1, .inr (.inl (some u))), (3, .inr (.inl (some lo)))], [], w, 0, 0)) (q := _) rfl (sx_if (o := false) (xceq_of.trans (by simp [hs]))) ?_
      refine yreach.at (S' := (15, [(5, .inr (.inl (some x))), (7, .inr (.inl (some y))), (0, .inr (.inr (1, m))), (1, .inr (.inl (some u))), (3, .inr (.inl (some lo)))], [.inr (.inl (some x))], w, 0, 0)) (q := _) rfl rfl ?_
      refine yreach.at (S' := (17, [(5, .inr (.inl (some x))), (7, .inr (.inl (some y))), (0, .inr (.inr (1, m))), (1, .inr (.inl (some u))), (3, .inr (.inl (some lo)))], [.inr (.inl (some y)), .inr (.inl (some x))], w, 0, 0)) (q := _) rfl rfl ?_
      refine yreach.at (S' := (18, [(5, .inr (.inl (some x))), (7, .inr (.inl (some y))), (0, .inr (.inr (1, m))), (1, .inr (.inl (some u))), (3, .inr (.inl (some lo)))], [.inr (.inl (some (x.tmod y)))], w, 0, 0)) (q := _) rfl (by
        show xh_ldiv (xl2 (fun x y => x - x / y * y)) 17 _ (.inr (.inl (some y)) :: .inr (.inl (some x)) :: []) w 0 0 = _
        unfold xh_ldiv
        dsimp only
        rw [if_pos hy0]
        show some (Sum.inl (18, _, [Sum.inr (Sum.inl (some (Int64.ofInt x - Int64.ofInt x / Int64.ofInt y * Int64.ofInt y).toInt))], w, 0, 0)) = _
        rw [e]) ?_
      refine yreach.at (S' := (20, [(9, .inr (.inl (some (x.tmod y)))), (5, .inr (.inl (some x))), (7, .inr (.inl (some y))), (0, .inr (.inr (1, m))), (1, .inr (.inl (some u))), (3, .inr (.inl (some lo)))], [], w, 0, 0)) (q := _) rfl rfl ?_
      refine yreach.at (S' := (22, [(9, .inr (.inl (some (x.tmod y)))), (5, .inr (.inl (some x))), (7, .inr (.inl (some y))), (0, .inr (.inr (1, m))), (1, .inr (.inl (some u))), (3, .inr (.inl (some lo)))], [.inr (.inl (some y))], w, 0, 0)) (q := _) rfl rfl ?_
      refine yreach.at (S' := (24, [(5, .inr (.inl (some y))), (9, .inr (.inl (some (x.tmod y)))), (7, .inr (.inl (some y))), (0, .inr (.inr (1, m))), (1, .inr (.inl (some u))), (3, .inr (.inl (some lo)))], [], w, 0, 0)) (q := _) rfl rfl ?_
      refine yreach.at (S' := (26, [(5, .inr (.inl (some y))), (9, .inr (.inl (some (x.tmod y)))), (7, .inr (.inl (some y))), (0, .inr (.inr (1, m))), (1, .inr (.inl (some u))), (3, .inr (.inl (some lo)))], [.inr (.inl (some (x.tmod y)))], w, 0, 0)) (q := _) rfl rfl ?_
      refine yreach.at (S' := (28, [(7, .inr (.inl (some (x.tmod y)))), (5, .inr (.inl (some y))), (9, .inr (.inl (some (x.tmod y)))), (0, .inr (.inr (1, m))), (1, .inr (.inl (some u))), (3, .inr (.inl (some lo)))], [], w, 0, 0)) (q := _) rfl rfl ?_
      refine yreach.at (S' := (6, [(7, .inr (.inl (some (x.tmod y)))), (5, .inr (.inl (some y))), (9, .inr (.inl (some (x.tmod y)))), (0, .inr (.inr (1, m))), (1, .inr (.inl (some u))), (3, .inr (.inl (some lo)))], [], w, 0, 0)) (q := _) rfl rfl ?_
      refine yreach.sub (lv' := [(5, .inr (.inl (some y))), (7, .inr (.inl (some (x.tmod y)))), (0, .inr (.inr (1, m))), (1, .inr (.inl (some u))), (3, .inr (.inl (some lo)))]) (by simp) ?_
      exact ysh_loop H n y (x.tmod y) hy hl (by omega) (fun _ => hy0)
/-- behind the loop -/
def yshC : YCut := (31, [(0, 1, (1, 30, 0)), (1, 1, (2, 0, 0)), (3, 1, (2, 0, 0)), (5, 1, (2, 1, 0))], [], [], (0, []), [])
def yshA : List YA := [(some (.inr (1, [])), [], none)]
theorem ysh_chk : ycut1 yKD 2 (fun _ => []) xMT xFT xSTX xm240 (ypst1 yshA) [yshC] 100 yshC = true := by decide +kernel
theorem ysh : yco l D tA ex sc xm240 ([(1, 30, 0), (2, 0, 0), (2, 1, 0)], ([], []), 2, yshA) := by
  intro ks as w gs ha h4 hg _
  obtain ⟨x0, l0, e0, h0, x1, l1, e1, ⟨u, eu, hu, _⟩, x2, l2, e2, ⟨lo, elo, hlo, hnz, _⟩, e3⟩ := ha
  have e3 : l2 = [] := e3
  subst e3
  subst e2
  subst e1
  subst e0
  subst eu
  subst elo
  have hg : gs = [] := hg
  subst hg
  obtain ⟨m, em, hm⟩ := h0.resolve_left (fun hh => absurd hh.1 (by decide))
  subst em
  have H : ∀ x, ylng x → x ≠ 0 → yreach (ySt sc xm240) (yJm l D tA ex sc xm240) (ypost yKD ks (ynu [.inr (.inr (1, m)), .inr (.inl (some u)), .inr (.inl (some lo))]) 2 w yshA) (31, [(0, .inr (.inr (1, m))), (1, .inr (.inl (some u))), (3, .inr (.inl (some lo))), (5, .inr (.inl (some x)))], [], w, 0, 0) := fun x hx hx0 => by
    refine ycuts_ok (exs := xSTX) (CT := fun _ => []) (Cs := [yshC]) (fu := 100) (ow := yow ks 2 w) (pu := 2) (Pst := ypst1 yshA) (fun j es hj => by
      rw [List.getElem?_append_left (List.getElem?_eq_some_iff.mp hj).1]
      exact hj) yow_md (fun _ _ _ _ h => by cases h) (fun n0 r0 ro K hh => ypst1_ok hh) (fun C hC => by
      rw [List.mem_singleton.mp hC]
      exact ysh_chk) 1 yshC List.mem_cons_self (fun s => match s with
        | 0 => .inr (.inr (1, m))
        | 1 => .inr (.inl (some u))
        | 2 => .inr (.inl (some lo))
        | _ => .inr (.inl (some x))) w _ ⟨_, [], rfl, ?_, rfl, ⟨fun s e hs => ?_, (fun g hg => by cases hg), (fun q hq => by cases hq), (fun q hq => by cases hq), (fun q hq => by cases hq)⟩, h4, (fun h => by cases h), (fun _ _ _ _ _ => rfl), (fun h => by cases h), fun h => by cases h⟩ (by
        show (0 : Int) + 0 < 1
        decide)
    · exact ⟨_, _, rfl, ⟨rfl, _, rfl⟩, _, _, rfl, ⟨by rw [ysym_ev]; rfl, by rw [ysym_ev]; exact hu⟩, _, _, rfl, ⟨by rw [ysym_ev]; rfl, by rw [ysym_ev]; exact hlo⟩, _, _, rfl, ⟨by rw [ysym_ev]; rfl, by rw [ysym_ev]; exact hx⟩, rfl⟩
    · match s, hs with
      | 0, hs =>
        cases hs
        exact Or.inr ⟨m, rfl, hm⟩
      | 1, hs =>
        cases hs
        exact ⟨u, rfl, hu, (fun h => by cases h), fun h => by cases h⟩
      | 2, hs =>
        cases hs
        exact ⟨lo, rfl, hlo, (fun h => by cases h), fun h => by cases h⟩
      | 3, hs =>
        cases hs
        exact ⟨x, rfl, hx, (fun _ => hx0), fun h => by cases h⟩
      | s + 4, hs => cases hs
  obtain ⟨ro, w', m1, m2⟩ := yco_of (l := l) (D := D) (tA := tA) (ex := ex) (sc := sc) (M := xm240) (j := 240) (as := [.inr (.inr (1, m)), .inr (.inl (some u)), .inr (.inl (some lo))]) (w := w) (Post := ypost yKD ks (ynu [.inr (.inr (1, m)), .inr (.inl (some u)), .inr (.inl (some lo))]) 2 w yshA) rfl (Nat.le_of_ble_eq_true rfl) (fun q hq => hq.1) (by
    refine yreach.at (S' := (1, [(0, .inr (.inr (1, m))), (1, .inr (.inl (some u))), (3, .inr (.inl (some lo)))], [.inr (.inl (some u))], w, 0, 0)) (q := _) rfl rfl ?_
    refine yreach.at (S' := (3, [(5, .inr (.inl (some u))), (0, .inr (.inr (1, m))), (1, .inr (.inl (some u))), (3, .inr (.inl (some lo)))], [], w, 0, 0)) (q := _) rfl rfl ?_
    refine yreach.at (S' := (4, [(5, .inr (.inl (some u))), (0, .inr (.inr (1, m))), (1, .inr (.inl (some u))), (3, .inr (.inl (some lo)))], [.inr (.inl (some lo))], w, 0, 0)) (q := _) rfl rfl ?_
    refine yreach.at (S' := (6, [(7, .inr (.inl (some lo))), (5, .inr (.inl (some u))), (0, .inr (.inr (1, m))), (1, .inr (.inl (some u))), (3, .inr (.inl (some lo)))], [], w, 0, 0)) (q := _) rfl rfl ?_
    refine yreach.sub (lv' := [(5, .inr (.inl (some u))), (7, .inr (.inl (some lo))), (0, .inr (.inr (1, m))), (1, .inr (.inl (some u))), (3, .inr (.inl (some lo)))]) (by simp) ?_
    exact ysh_loop H _ u lo hu hlo (Nat.lt_succ_self _) (fun h => absurd h (hnz rfl)))
  obtain ⟨p1, p2, p3, p4, p4x, p4y, p5⟩ := m2
  exact ⟨ro, w', m1, p2, p3, p4, p4x, p4y, p5⟩
end YH
