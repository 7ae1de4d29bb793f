/-! ===== by hand: the bits of a set are counted ===== -/
theorem zyadd {x y u : Int} (h : x + y = u) (hb : -2147483648 ≤ u ∧ u ≤ 2147483647) : xadd (x, x) (y, y) = (u, u) := by
  subst h
  unfold xadd
  rw [if_pos hb]
theorem zycmp {c : ClassFile.Cond} {p q : Int × Int} {o o' : Bool} (h : xcmp c p q = some o) (ho : o = o') : xcmp c p q = some o' := by
  rw [h, ho]
def zmn (z : Int) : Nat → Int
  | 0 => 0
  | k + 1 => zmn z k + ybit z (k : Int)
theorem zmn_rg (z : Int) : ∀ k : Nat, 0 ≤ zmn z k ∧ zmn z k ≤ (k : Int)
  | 0 => ⟨Int.le_refl _, Int.le_refl _⟩
  | k + 1 => by
    have h := zmn_rg z k
    have hb : ybit z (k : Int) = 0 ∨ ybit z (k : Int) = 1 := Int.emod_two_eq _
    show 0 ≤ zmn z k + ybit z (k : Int) ∧ zmn z k + ybit z (k : Int) ≤ ((k + 1 : Nat) : Int)
    omega
section YH
variable {l : Launch} {D : va_G} {tA : Nat → ClassId} {ex : List Nat} {sc : List XV}
section XG
variable {cf : XF} {MT : Nat → Option XM} {FT : Nat → Nat → Option FieldType} {FD : Nat → Option (List XV)} {TY : Nat → Option FieldType} {TC : Nat → Option Nat} {exc : List (List XV)} {M : XM} {pc : Nat} {lv : XL} {st : List XV} {w : XW} {k n : Nat}
theorem zybin {a b : Nat} {z : Int} {i : Instr} {f : Int × Int → Int × Int → Int × Int} {x y u : Int × Int} (hi : xins cf MT FT FD TY TC exc M i a b z pc lv (.inl y :: .inl x :: st) w k n = xh_bin f pc lv (.inl y :: .inl x :: st) w k n) (h : f x y = u) : xins cf MT FT FD TY TC exc M i a b z pc lv (.inl y :: .inl x :: st) w k n = some (.inl (pc + 1, lv, .inl u :: st, w, k, n)) := by
  rw [hi, ← h]
  rfl
end XG
theorem zyhas0 {z : Int} {k : Nat} {w : XW} (hz : ylng z) (hk : k < 64) (hb : ybit z (k : Int) = 0) : XMet l D vwCl (tysX tA) tA ex (xSTX ++ [sc]) xSV xNW xNF xTs xm192 [.inr (.inl (some z)), .inl ((k : Int), (k : Int))] w (some (.inl (0, 0))) w := by
  obtain ⟨ro, w', m1, m2⟩ := yco_of (j := 192) (as := [.inr (.inl (some z)), .inl ((k : Int), (k : Int))]) rfl (Nat.le_of_ble_eq_true rfl) (fun q hq => by rw [hq]) (yhb192_0 (l := l) (D := D) (tA := tA) (ex := ex) (sc := sc) (w := w) hz hk hb)
  cases m2
  exact m1
theorem zyhas1 {z : Int} {k : Nat} {w : XW} (hz : ylng z) (hk : k < 64) (hb : ybit z (k : Int) = 1) : XMet l D vwCl (tysX tA) tA ex (xSTX ++ [sc]) xSV xNW xNF xTs xm192 [.inr (.inl (some z)), .inl ((k : Int), (k : Int))] w (some (.inl (1, 1))) w := by
  obtain ⟨ro, w', m1, m2⟩ := yco_of (j := 192) (as := [.inr (.inl (some z)), .inl ((k : Int), (k : Int))]) rfl (Nat.le_of_ble_eq_true rfl) (fun q hq => by rw [hq]) (yhb192_1 (l := l) (D := D) (tA := tA) (ex := ex) (sc := sc) (w := w) hz hk hb)
  cases m2
  exact m1
theorem zymn_loop {w : XW} {z : Int} (hz : ylng z) : ∀ (m k : Nat), k + m = 64 → yreach (ySt sc xm191) (yJm l D tA ex sc xm191) ((fun q => q = (some (.inl (zmn z 64, zmn z 64)), w, 0, 0))) (4, [(3, .inl (((k : Nat) : Int), ((k : Nat) : Int))), (2, .inl (zmn z k, zmn z k)), (0, .inr (.inl (some z)))], [], w, 0, 0)
  | 0, k, e => by
    have e : k = 64 := e
    subst e
    refine yreach.at (S' := (5, [(3, .inl (((64 : Nat) : Int), ((64 : Nat) : Int))), (2, .inl (zmn z 64, zmn z 64)), (0, .inr (.inl (some z)))], [.inl (((64 : Nat) : Int), ((64 : Nat) : Int))], w, 0, 0)) (q := _) rfl rfl ?_
    refine yreach.at (S' := (7, [(3, .inl (((64 : Nat) : Int), ((64 : Nat) : Int))), (2, .inl (zmn z 64, zmn z 64)), (0, .inr (.inl (some z)))], [.inl (64, 64), .inl (((64 : Nat) : Int), ((64 : Nat) : Int))], w, 0, 0)) (q := _) rfl rfl ?_
    refine yreach.at (S' := (32, [(3, .inl (((64 : Nat) : Int), ((64 : Nat) : Int))), (2, .inl (zmn z 64, zmn z 64)), (0, .inr (.inl (some z)))], [], w, 0, 0)) (q := _) rfl (sx_icmp (o := true) (zycmp xge_of (decide_eq_true (by omega)))) ?_
    refine yreach.at (S' := (33, [(3, .inl (((64 : Nat) : Int), ((64 : Nat) : Int))), (2, .inl (zmn z 64, zmn z 64)), (0, .inr (.inl (some z)))], [.inl (zmn z 64, zmn z 64)], w, 0, 0)) (q := _) rfl rfl ?_
    exact yreach.ret (q := (some (.inl (zmn z 64, zmn z 64)), w, 0, 0)) ((xstep_at rfl).trans rfl) rfl
  | m + 1, k, e => by
    have hb : ybit z (k : Int) = 0 ∨ ybit z (k : Int) = 1 := Int.emod_two_eq _
    have hr := zmn_rg z k
    have hk : k < 64 := by omega
    rcases hb with hb | hb
    · refine yreach.at (S' := (5, [(3, .inl (((k : Nat) : Int), ((k : Nat) : Int))), (2, .inl (zmn z k, zmn z k)), (0, .inr (.inl (some z)))], [.inl (((k : Nat) : Int), ((k : Nat) : Int))], w, 0, 0)) (q := _) rfl rfl ?_
      refine yreach.at (S' := (7, [(3, .inl (((k : Nat) : Int), ((k : Nat) : Int))), (2, .inl (zmn z k, zmn z k)), (0, .inr (.inl (some z)))], [.inl (64, 64), .inl (((k : Nat) : Int), ((k : Nat) : Int))], w, 0, 0)) (q := _) rfl rfl ?_
      refine yreach.at (S' := (10, [(3, .inl (((k : Nat) : Int), ((k : Nat) : Int))), (2, .inl (zmn z k, zmn z k)), (0, .inr (.inl (some z)))], [], w, 0, 0)) (q := _) rfl (sx_icmp (o := false) (zycmp xge_of (decide_eq_false (by omega)))) ?_
      refine yreach.at (S' := (11, [(3, .inl (((k : Nat) : Int), ((k : Nat) : Int))), (2, .inl (zmn z k, zmn z k)), (0, .inr (.inl (some z)))], [.inl (zmn z k, zmn z k)], w, 0, 0)) (q := _) rfl rfl ?_
      refine yreach.at (S' := (12, [(3, .inl (((k : Nat) : Int), ((k : Nat) : Int))), (2, .inl (zmn z k, zmn z k)), (0, .inr (.inl (some z)))], [.inr (.inl (some z)), .inl (zmn z k, zmn z k)], w, 0, 0)) (q := _) rfl rfl ?_
      refine yreach.at (S' := (13, [(3, .inl (((k : Nat) : Int), ((k : Nat) : Int))), (2, .inl (zmn z k, zmn z k)), (0, .inr (.inl (some z)))], [.inl (((k : Nat) : Int), ((k : Nat) : Int)), .inr (.inl (some z)), .inl (zmn z k, zmn z k)], w, 0, 0)) (q := _) rfl rfl ?_
      refine ycall_at (N := xm192) (ro := some (.inl (0, 0))) (w' := w) (recv := false) (i := .invokestatic 150) (a := 192) (na := 2) (z := 0) rfl (fun _ => rfl) rfl (zyhas0 hz hk hb) ⟨Nat.le_of_ble_eq_true rfl, Nat.le_of_ble_eq_true rfl, Nat.le_of_ble_eq_true rfl, Nat.le_of_ble_eq_true rfl, Nat.le_of_ble_eq_true rfl, Nat.le_of_ble_eq_true rfl, rfl⟩ ?_
      show yreach (ySt sc xm191) (yJm l D tA ex sc xm191) (_) (16, [(3, .inl (((k : Nat) : Int), ((k : Nat) : Int))), (2, .inl (zmn z k, zmn z k)), (0, .inr (.inl (some z)))], [.inl (0, 0), .inl (zmn z k, zmn z k)], w, 0, 0)
      refine yreach.at (S' := (23, [(3, .inl (((k : Nat) : Int), ((k : Nat) : Int))), (2, .inl (zmn z k, zmn z k)), (0, .inr (.inl (some z)))], [.inl (zmn z k, zmn z k)], w, 0, 0)) (q := _) rfl (sx_if (o := true) (zycmp xceq_of (decide_eq_true (by omega)))) ?_
      refine yreach.at (S' := (24, [(3, .inl (((k : Nat) : Int), ((k : Nat) : Int))), (2, .inl (zmn z k, zmn z k)), (0, .inr (.inl (some z)))], [.inl (0, 0), .inl (zmn z k, zmn z k)], w, 0, 0)) (q := _) rfl rfl ?_
      refine yreach.at (S' := (25, [(3, .inl (((k : Nat) : Int), ((k : Nat) : Int))), (2, .inl (zmn z k, zmn z k)), (0, .inr (.inl (some z)))], [.inl (zmn z (k + 1), zmn z (k + 1))], w, 0, 0)) (q := _) rfl (zybin rfl (zyadd (by show zmn z k + 0 = zmn z k + ybit z (k : Int); rw [hb]) (by show -2147483648 ≤ zmn z k + ybit z (k : Int) ∧ zmn z k + ybit z (k : Int) ≤ 2147483647; omega))) ?_
      refine yreach.at (S' := (26, [(2, .inl (zmn z (k + 1), zmn z (k + 1))), (3, .inl (((k : Nat) : Int), ((k : Nat) : Int))), (0, .inr (.inl (some z)))], [], w, 0, 0)) (q := _) rfl rfl ?_
      refine yreach.at (S' := (29, [(3, .inl ((((k : Nat) : Int) + 1), (((k : Nat) : Int) + 1))), (2, .inl (zmn z (k + 1), zmn z (k + 1))), (0, .inr (.inl (some z)))], [], w, 0, 0)) (q := _) rfl (sx_iinc (z := 1) rfl (Nat.le_of_ble_eq_true rfl) (by omega)) ?_
      refine yreach.at (S' := (4, [(3, .inl ((((k : Nat) : Int) + 1), (((k : Nat) : Int) + 1))), (2, .inl (zmn z (k + 1), zmn z (k + 1))), (0, .inr (.inl (some z)))], [], w, 0, 0)) (q := _) rfl rfl ?_
      exact zymn_loop hz m (k + 1) (by omega)
    · refine yreach.at (S' := (5, [(3, .inl (((k : Nat) : Int), ((k : Nat) : Int))), (2, .inl (zmn z k, zmn z k)), (0, .inr (.inl (some z)))], [.inl (((k : Nat) : Int), ((k : Nat) : Int))], w, 0, 0)) (q := _) rfl rfl ?_
      refine yreach.at (S' := (7, [(3, .inl (((k : Nat) : Int), ((k : Nat) : Int))), (2, .inl (zmn z k, zmn z k)), (0, .inr (.inl (some z)))], [.inl (64, 64), .inl (((k : Nat) : Int), ((k : Nat) : Int))], w, 0, 0)) (q := _) rfl rfl ?_
      refine yreach.at (S' := (10, [(3, .inl (((k : Nat) : Int), ((k : Nat) : Int))), (2, .inl (zmn z k, zmn z k)), (0, .inr (.inl (some z)))], [], w, 0, 0)) (q := _) rfl (sx_icmp (o := false) (zycmp xge_of (decide_eq_false (by omega)))) ?_
      refine yreach.at (S' := (11, [(3, .inl (((k : Nat) : Int), ((k : Nat) : Int))), (2, .inl (zmn z k, zmn z k)), (0, .inr (.inl (some z)))], [.inl (zmn z k, zmn z k)], w, 0, 0)) (q := _) rfl rfl ?_
      refine yreach.at (S' := (12, [(3, .inl (((k : Nat) : Int), ((k : Nat) : Int))), (2, .inl (zmn z k, zmn z k)), (0, .inr (.inl (some z)))], [.inr (.inl (some z)), .inl (zmn z k, zmn z k)], w, 0, 0)) (q := _) rfl rfl ?_
      refine yreach.at (S' := (13, [(3, .inl (((k : Nat) : Int), ((k : Nat) : Int))), (2, .inl (zmn z k, zmn z k)), (0, .inr (.inl (some z)))], [.inl (((k : Nat) : Int), ((k : Nat) : Int)), .inr (.inl (some z)), .inl (zmn z k, zmn z k)], w, 0, 0)) (q := _) rfl rfl ?_
      refine ycall_at (N := xm192) (ro := some (.inl (1, 1))) (w' := w) (recv := false) (i := .invokestatic 150) (a := 192) (na := 2) (z := 0) rfl (fun _ => rfl) rfl (zyhas1 hz hk hb) ⟨Nat.le_of_ble_eq_true rfl, Nat.le_of_ble_eq_true rfl, Nat.le_of_ble_eq_true rfl, Nat.le_of_ble_eq_true rfl, Nat.le_of_ble_eq_true rfl, Nat.le_of_ble_eq_true rfl, rfl⟩ ?_
      show yreach (ySt sc xm191) (yJm l D tA ex sc xm191) (_) (16, [(3, .inl (((k : Nat) : Int), ((k : Nat) : Int))), (2, .inl (zmn z k, zmn z k)), (0, .inr (.inl (some z)))], [.inl (1, 1), .inl (zmn z k, zmn z k)], w, 0, 0)
      refine yreach.at (S' := (19, [(3, .inl (((k : Nat) : Int), ((k : Nat) : Int))), (2, .inl (zmn z k, zmn z k)), (0, .inr (.inl (some z)))], [.inl (zmn z k, zmn z k)], w, 0, 0)) (q := _) rfl (sx_if (o := false) (zycmp xceq_of (decide_eq_false (by omega)))) ?_
      refine yreach.at (S' := (20, [(3, .inl (((k : Nat) : Int), ((k : Nat) : Int))), (2, .inl (zmn z k, zmn z k)), (0, .inr (.inl (some z)))], [.inl (1, 1), .inl (zmn z k, zmn z k)], w, 0, 0)) (q := _) rfl rfl ?_
      refine yreach.at (S' := (24, [(3, .inl (((k : Nat) : Int), ((k : Nat) : Int))), (2, .inl (zmn z k, zmn z k)), (0, .inr (.inl (some z)))], [.inl (1, 1), .inl (zmn z k, zmn z k)], w, 0, 0)) (q := _) rfl rfl ?_
      refine yreach.at (S' := (25, [(3, .inl (((k : Nat) : Int), ((k : Nat) : Int))), (2, .inl (zmn z k, zmn z k)), (0, .inr (.inl (some z)))], [.inl (zmn z (k + 1), zmn z (k + 1))], w, 0, 0)) (q := _) rfl (zybin rfl (zyadd (by show zmn z k + 1 = zmn z k + ybit z (k : Int); rw [hb]) (by show -2147483648 ≤ zmn z k + ybit z (k : Int) ∧ zmn z k + ybit z (k : Int) ≤ 2147483647; omega))) ?_
      refine yreach.at (S' := (26, [(2, .inl (zmn z (k + 1), zmn z (k + 1))), (3, .inl (((k : Nat) : Int), ((k : Nat) : Int))), (0, .inr (.inl (some z)))], [], w, 0, 0)) (q := _) rfl rfl ?_
      refine yreach.at (S' := (29, [(3, .inl ((((k : Nat) : Int) + 1), (((k : Nat) : Int) + 1))), (2, .inl (zmn z (k + 1), zmn z (k + 1))), (0, .inr (.inl (some z)))], [], w, 0, 0)) (q := _) rfl (sx_iinc (z := 1) rfl (Nat.le_of_ble_eq_true rfl) (by omega)) ?_
      refine yreach.at (S' := (4, [(3, .inl ((((k : Nat) : Int) + 1), (((k : Nat) : Int) + 1))), (2, .inl (zmn z (k + 1), zmn z (k + 1))), (0, .inr (.inl (some z)))], [], w, 0, 0)) (q := _) rfl rfl ?_
      exact zymn_loop hz m (k + 1) (by omega)
theorem zymn_run {w : XW} {z : Int} (hz : ylng z) : yreach (ySt sc xm191) (yJm l D tA ex sc xm191) ((fun q => q = (some (.inl (zmn z 64, zmn z 64)), w, 0, 0))) (0, [(0, .inr (.inl (some z)))], [], w, 0, 0) := by
  refine yreach.at (S' := (1, [(0, .inr (.inl (some z)))], [.inl (0, 0)], w, 0, 0)) (q := _) rfl rfl ?_
  refine yreach.at (S' := (2, [(2, .inl (0, 0)), (0, .inr (.inl (some z)))], [], w, 0, 0)) (q := _) rfl rfl ?_
  refine yreach.at (S' := (3, [(2, .inl (0, 0)), (0, .inr (.inl (some z)))], [.inl (0, 0)], w, 0, 0)) (q := _) rfl rfl ?_
  refine yreach.at (S' := (4, [(3, .inl (0, 0)), (2, .inl (0, 0)), (0, .inr (.inl (some z)))], [], w, 0, 0)) (q := _) rfl rfl ?_
  exact zymn_loop hz 64 0 rfl
theorem yMany_ok {q : Int × Int} (hq : q ∈ yMany) : q.2 = zmn q.1 64 := of_decide_eq_true (List.all_eq_true.mp (show yMany.all (fun q => decide (q.2 = zmn q.1 64)) = true by decide +kernel) q hq)
theorem yhb191 {q : Int × Int} (hq : q ∈ yMany) : yco l D tA ex sc xm191 ([(2, 2, q.1)], ([], []), 1, [(some (.inr (q.2, [])), [], none)]) := by
  intro ks as w gs ha h4 hg _
  obtain ⟨x1, l1, e1, ⟨z, ez, hz, _, hq2⟩, e2⟩ := ha
  have e2 : l1 = [] := e2
  subst e2
  subst e1
  subst ez
  have hg : gs = [] := hg
  subst hg
  have hzq : z = q.1 := hq2 rfl
  obtain ⟨ro, w', m1, m2⟩ := yco_of (j := 191) (as := [.inr (.inl (some z))]) rfl (Nat.le_of_ble_eq_true rfl) (fun q hq => by rw [hq]) (zymn_run (l := l) (D := D) (tA := tA) (ex := ex) (sc := sc) (w := w) hz)
  cases m2
  have hE : ∀ nu : Nat → Int, yev nu (q.2, []) = zmn z 64 := fun nu => by
    show q.2 + 0 = _
    rw [Int.add_zero, hzq]
    exact yMany_ok hq
  have hr := zmn_rg z 64
  exact ⟨_, _, m1, h4, fun _ => rfl, (fun h => by cases h), (fun h => by cases h), (fun h => by cases h), _, List.mem_cons_self, ⟨by rw [hE], by rw [hE]; exact ⟨by omega, by omega⟩⟩, (fun g hg => by cases hg), trivial⟩
end YH
