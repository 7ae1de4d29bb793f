/-! ===== by hand: rules ===== -/
theorem zu_13 {p : Nat} (h : yKS0[p]? = some 13) : p = 11 := of_decide_eq_true (yat_ok (f := fun p => decide (p = 11)) (by decide +kernel) h)
/-- how many of the first k are told -/
def zCn (it : List Int) : Nat → Int
  | 0 => 0
  | k + 1 => zCn it k + (if (it[k]?).getD 0 = -9 then 0 else 1)
theorem zCn_b {it : List Int} : ∀ {k : Nat}, 0 ≤ zCn it k ∧ zCn it k ≤ k
  | 0 => ⟨Int.le_refl _, Int.le_refl _⟩
  | k + 1 => by
    obtain ⟨h1, h2⟩ := zCn_b (it := it) (k := k)
    show 0 ≤ zCn it k + (if (it[k]?).getD 0 = -9 then 0 else 1) ∧ zCn it k + (if (it[k]?).getD 0 = -9 then 0 else 1) ≤ ((k + 1 : Nat) : Int)
    split <;> omega
def zRuA (S : ZS) (b t : Int) : Int := if b < 0 ∨ 6 ≤ b ∨ t < 0 ∨ 4 ≤ t then -1 else match S (6 + t.toNat) with
  | none => -3
  | some L => if (zPr L 40 0 [-9, -9, -9, -9]).1 = -9 then zCn (zPr L 40 0 [-9, -9, -9, -9]).2 4 else -4
theorem zIt_at {it : List Int} (h : zIt it) {k : Nat} (hk : k < 4) : ∃ x, it[k]? = some x ∧ (it[k]?).getD 0 = x ∧ (x = -9 ∨ (0 ≤ x ∧ x ≤ 999)) := by
  have hl : k < it.length := by
    rw [h.1]
    exact hk
  refine ⟨it[k], List.getElem?_eq_getElem hl, ?_, h.2 _ (List.getElem_mem hl)⟩
  rw [List.getElem?_eq_getElem hl]
  rfl
theorem zarr_at {it : List Int} {k : Nat} {x : Int} (h : it[k]? = some x) : (zarr it)[k]? = some (.inl (x, x)) := by
  unfold zarr
  rw [List.getElem?_map, h]
  rfl
/-- a boat, its rules -/
theorem zboat {ks : List Nat} {w : XW} (h4 : yheap yKD ks w) (hK : zK ks) {fs : List XV} (hw : w[0]? = some (.inl (9, fs))) : fs[3]? = some (.inr (.inr (1, 11))) ∧ ∃ fl, w[11]? = some (.inr (4, fl)) ∧ ∀ b : Nat, b < 6 → ∃ o bf a ru, fl[b]? = some (.inr (.inr (1, o))) ∧ ks[o]? = some 14 ∧ w[o]? = some (.inl (0, bf)) ∧ bf[0]? = some (.inr (.inr (1, a))) ∧ ks[a]? = some 15 ∧ w[a]? = some (.inr (0, ru)) ∧ ru.length = 4 := by
  obtain ⟨v, g, hv⟩ := yfld h4 (hK.at (i := 0) (k := 0) rfl) (show yKD 0 = some yK_0 from rfl) hw 3 rfl
  obtain ⟨p, rfl, hp⟩ := yrf hv
  have e := hK.un (q := 11) rfl (fun p' => zu_13) hp
  subst e
  obtain ⟨fl, h11, hl, ha⟩ := yheap_a h4 hp (show yKD 13 = some yK_13 from rfl)
  refine ⟨g, fl, h11, fun b hb => ?_⟩
  have hl : fl.length = 6 := hl
  have hbl : b < fl.length := by omega
  obtain ⟨e, h1, h2⟩ := ha b fl[b] (List.getElem?_eq_getElem hbl)
  rw [List.mem_singleton.mp h1] at h2
  obtain ⟨o, ho, hko⟩ := yrf h2
  obtain ⟨bf, hb1, _, _⟩ := yheap_f h4 hko (show yKD 14 = some yK_14 from rfl)
  obtain ⟨v, g2, hv⟩ := yfld h4 hko (show yKD 14 = some yK_14 from rfl) hb1 0 rfl
  obtain ⟨a, rfl, hka⟩ := yrf hv
  obtain ⟨ru, hr1, hr2, _⟩ := yheap_a h4 hka (show yKD 15 = some yK_15 from rfl)
  exact ⟨o, bf, a, ru, by rw [List.getElem?_eq_getElem hbl, ho], hko, hb1, g2, hka, hr1, hr2⟩
section XG
variable {cf : XF} {MT : Nat → Option XM} {FT : Nat → Nat → Option FieldType} {FD : Nat → Option (List XV)} {TY : Nat → Option FieldType} {TC : Nat → Option Nat} {exc : List (List XV)} {M : XM} {pc : Nat} {lv : XL} {st : List XV} {w : XW} {k n : Nat}
theorem sx_aald4 {a b : Nat} {z : Int} {q : Nat} {es : List XV} {i : Int × Int} {v : Nat × Nat} (hw : w[q]? = some (.inr (4, es))) (hv : xread es i = some (.inr (.inr v))) : xins cf MT FT FD TY TC exc M .aaload a b z pc lv (.inl i :: .inr (.inr (1, q)) :: st) w k n = some (.inl (pc + 1, lv, .inr (.inr v) :: st, w, k, n)) := by
  have e : xarr w exc (1, q) = some (4, es) := by
    unfold xarr
    dsimp only
    rw [if_pos rfl, hw]
  have e2 : xh_ald 3 2 exc pc lv (.inl i :: .inr (.inr (1, q)) :: st) w k n = some (.inl (pc + 1, lv, .inr (.inr v) :: st, w, k, n)) := by
    unfold xh_ald
    dsimp only
    rw [e]
    dsimp only
    rw [if_pos (Or.inr ⟨rfl, by decide⟩), hv]
    rfl
  simp only [xins]
  exact e2
end XG
section YH
variable {l : Launch} {D : va_G} {tA : Nat → ClassId} {ex : List Nat} {sc : List XV}
theorem zcb_y {w : XW} {a : Int} (h : (0 ≤ a ∧ a < 6)) : XMet l D vwCl (tysX tA) tA ex (xSTX ++ [sc]) xSV xNW xNF xTs xm39 [.inl (a, a)] w (some (.inl (1, 1))) w := by
  refine zex (j := 39) rfl (Nat.le_of_ble_eq_true rfl) ?_
  refine yreach.at (S' := (1, [(0, .inl (a, a))], [.inl (a, a)], w, 0, 0)) (q := _) rfl rfl ?_
  refine yreach.at (S' := (4, [(0, .inl (a, a))], [], w, 0, 0)) (q := _) rfl (sx_if (o := false) (zcmp (show xcmp .lt _ _ = _ from xlt_of) (decide_eq_false (by omega)))) ?_
  refine yreach.at (S' := (5, [(0, .inl (a, a))], [.inl (a, a)], w, 0, 0)) (q := _) rfl rfl ?_
  refine yreach.at (S' := (7, [(0, .inl (a, a))], [.inl (6, 6), .inl (a, a)], w, 0, 0)) (q := _) rfl rfl ?_
  refine yreach.at (S' := (10, [(0, .inl (a, a))], [], w, 0, 0)) (q := _) rfl (sx_icmp (o := false) (zcmp xge_of (decide_eq_false (by omega)))) ?_
  refine yreach.at (S' := (11, [(0, .inl (a, a))], [.inl (1, 1)], w, 0, 0)) (q := _) rfl rfl ?_
  refine yreach.at (S' := (15, [(0, .inl (a, a))], [.inl (1, 1)], w, 0, 0)) (q := _) rfl rfl ?_
  exact yreach.ret (q := (some (.inl (1, 1)), w, 0, 0)) ((xstep_at rfl).trans rfl) rfl
theorem zcb_n {w : XW} {a : Int} (h : ¬ (0 ≤ a ∧ a < 6)) : XMet l D vwCl (tysX tA) tA ex (xSTX ++ [sc]) xSV xNW xNF xTs xm39 [.inl (a, a)] w (some (.inl (0, 0))) w := by
  refine zex (j := 39) rfl (Nat.le_of_ble_eq_true rfl) ?_
  by_cases h1 : a < 0
  · refine yreach.at (S' := (1, [(0, .inl (a, a))], [.inl (a, a)], w, 0, 0)) (q := _) rfl rfl ?_
    refine yreach.at (S' := (14, [(0, .inl (a, a))], [], w, 0, 0)) (q := _) rfl (sx_if (o := true) (zcmp (show xcmp .lt _ _ = _ from xlt_of) (decide_eq_true (by omega)))) ?_
    refine yreach.at (S' := (15, [(0, .inl (a, a))], [.inl (0, 0)], w, 0, 0)) (q := _) rfl rfl ?_
    exact yreach.ret (q := (some (.inl (0, 0)), w, 0, 0)) ((xstep_at rfl).trans rfl) rfl
  · refine yreach.at (S' := (1, [(0, .inl (a, a))], [.inl (a, a)], w, 0, 0)) (q := _) rfl rfl ?_
    refine yreach.at (S' := (4, [(0, .inl (a, a))], [], w, 0, 0)) (q := _) rfl (sx_if (o := false) (zcmp (show xcmp .lt _ _ = _ from xlt_of) (decide_eq_false (by omega)))) ?_
    refine yreach.at (S' := (5, [(0, .inl (a, a))], [.inl (a, a)], w, 0, 0)) (q := _) rfl rfl ?_
    refine yreach.at (S' := (7, [(0, .inl (a, a))], [.inl (6, 6), .inl (a, a)], w, 0, 0)) (q := _) rfl rfl ?_
    refine yreach.at (S' := (14, [(0, .inl (a, a))], [], w, 0, 0)) (q := _) rfl (sx_icmp (o := true) (zcmp xge_of (decide_eq_true (by omega)))) ?_
    refine yreach.at (S' := (15, [(0, .inl (a, a))], [.inl (0, 0)], w, 0, 0)) (q := _) rfl rfl ?_
    exact yreach.ret (q := (some (.inl (0, 0)), w, 0, 0)) ((xstep_at rfl).trans rfl) rfl
theorem zbt_in {w : XW} {fs fl : List XV} (hw : w[0]? = some (.inl (9, fs))) (g3 : fs[3]? = some (.inr (.inr (1, 11)))) (h11 : w[11]? = some (.inr (4, fl))) {b o : Nat} (hb : b < 6) (ho : fl[b]? = some (.inr (.inr (1, o)))) : XMet l D vwCl (tysX tA) tA ex (xSTX ++ [sc]) xSV xNW xNF xTs xm38 [.inr (.inr (1, 0)), .inl ((b : Int), (b : Int))] w (some (.inr (.inr (1, o)))) w := by
  refine zex (j := 38) rfl (Nat.le_of_ble_eq_true rfl) ?_
  refine yreach.at (S' := (1, [(0, .inr (.inr (1, 0))), (1, .inl ((b : Int), (b : Int)))], [.inl ((b : Int), (b : Int))], w, 0, 0)) (q := _) rfl rfl ?_
  refine ycall_at (N := xm39) (ro := some (.inl (1, 1))) (w' := w) (recv := false) (i := .invokestatic 305) (a := 39) (na := 1) (z := 0) rfl (fun _ => rfl) rfl (zcb_y (by omega)) ⟨Nat.le_of_ble_eq_true rfl, Nat.le_of_ble_eq_true rfl, Nat.le_of_ble_eq_true rfl, Nat.le_of_ble_eq_true rfl, Nat.le_of_ble_eq_true rfl, Nat.le_of_ble_eq_true rfl, rfl⟩ ?_
  show yreach (ySt sc xm38) (yJm l D tA ex sc xm38) (_) (4, [(0, .inr (.inr (1, 0))), (1, .inl ((b : Int), (b : Int)))], [.inl (1, 1)], w, 0, 0)
  refine yreach.at (S' := (7, [(0, .inr (.inr (1, 0))), (1, .inl ((b : Int), (b : Int)))], [], w, 0, 0)) (q := _) rfl (sx_if (o := false) (zcmp xceq_of (decide_eq_false (by omega)))) ?_
  refine yreach.at (S' := (8, [(0, .inr (.inr (1, 0))), (1, .inl ((b : Int), (b : Int)))], [.inr (.inr (1, 0))], w, 0, 0)) (q := _) rfl rfl ?_
  refine yreach.at (S' := (11, [(0, .inr (.inr (1, 0))), (1, .inl ((b : Int), (b : Int)))], [.inr (.inr (1, 11))], w, 0, 0)) (q := _) rfl (sx_get hw g3) ?_
  refine yreach.at (S' := (12, [(0, .inr (.inr (1, 0))), (1, .inl ((b : Int), (b : Int)))], [.inl ((b : Int), (b : Int)), .inr (.inr (1, 11))], w, 0, 0)) (q := _) rfl rfl ?_
  refine yreach.at (S' := (13, [(0, .inr (.inr (1, 0))), (1, .inl ((b : Int), (b : Int)))], [.inr (.inr (1, o))], w, 0, 0)) (q := _) rfl (sx_aald4 h11 (zread ho)) ?_
  refine yreach.at (S' := (17, [(0, .inr (.inr (1, 0))), (1, .inl ((b : Int), (b : Int)))], [.inr (.inr (1, o))], w, 0, 0)) (q := _) rfl rfl ?_
  exact yreach.ret (q := (some (.inr (.inr (1, o))), w, 0, 0)) ((xstep_at rfl).trans rfl) rfl
theorem zbt_no {w : XW} {a : Int} (h : ¬ (0 ≤ a ∧ a < 6)) : XMet l D vwCl (tysX tA) tA ex (xSTX ++ [sc]) xSV xNW xNF xTs xm38 [.inr (.inr (1, 0)), .inl (a, a)] w (some (.inr (.inr (0, 0)))) w := by
  refine zex (j := 38) rfl (Nat.le_of_ble_eq_true rfl) ?_
  refine yreach.at (S' := (1, [(0, .inr (.inr (1, 0))), (1, .inl (a, a))], [.inl (a, a)], w, 0, 0)) (q := _) rfl rfl ?_
  refine ycall_at (N := xm39) (ro := some (.inl (0, 0))) (w' := w) (recv := false) (i := .invokestatic 305) (a := 39) (na := 1) (z := 0) rfl (fun _ => rfl) rfl (zcb_n h) ⟨Nat.le_of_ble_eq_true rfl, Nat.le_of_ble_eq_true rfl, Nat.le_of_ble_eq_true rfl, Nat.le_of_ble_eq_true rfl, Nat.le_of_ble_eq_true rfl, Nat.le_of_ble_eq_true rfl, rfl⟩ ?_
  show yreach (ySt sc xm38) (yJm l D tA ex sc xm38) (_) (4, [(0, .inr (.inr (1, 0))), (1, .inl (a, a))], [.inl (0, 0)], w, 0, 0)
  refine yreach.at (S' := (16, [(0, .inr (.inr (1, 0))), (1, .inl (a, a))], [], w, 0, 0)) (q := _) rfl (sx_if (o := true) (zcmp xceq_of (decide_eq_true (by omega)))) ?_
  refine yreach.at (S' := (17, [(0, .inr (.inr (1, 0))), (1, .inl (a, a))], [.inr (.inr (0, 0))], w, 0, 0)) (q := _) rfl rfl ?_
  exact yreach.ret (q := (some (.inr (.inr (0, 0))), w, 0, 0)) ((xstep_at rfl).trans rfl) rfl
theorem zcr_loop {w : XW} {o a q : Nat} {b t : Int} {fs bf ru rd : List XV} {it : List Int} (hw : w[0]? = some (.inl (9, fs))) (g6 : fs[6]? = some (.inr (.inr (1, 14)))) (hr : w[14]? = some (.inl (5, rd))) (gr : rd[0]? = some (.inr (.inr (1, 15)))) (h15 : w[15]? = some (.inr (0, zarr it))) (ho : w[o]? = some (.inl (0, bf))) (gb : bf[0]? = some (.inr (.inr (1, a)))) (ha : w[a]? = some (.inr (0, ru))) (hl : ru.length = 4) (hit : zIt it) (n0 : a ≠ 0) (n14 : a ≠ 14) (n15 : a ≠ 15) (no : a ≠ o) : ∀ m k : Nat, k + m = 4 → yreach (ySt sc xm108) (yJm l D tA ex sc xm108) (fun r => r = (some (.inl (zCn it 4, zCn it 4)), List.set (α := XC) w a (.inr (0, zfl ru 0 (fun k => .inl ((it[k]?).getD 0, (it[k]?).getD 0)) 4)), 0, 0)) (61, [(6, .inl (((k : Nat) : Int), ((k : Nat) : Int))), (5, .inl (zCn it k, zCn it k)), (4, .inr (.inr (1, q))), (3, .inr (.inr (1, o))), (0, .inr (.inr (1, 0))), (1, .inl (b, b)), (2, .inl (t, t))], [], List.set (α := XC) w a (.inr (0, zfl ru 0 (fun k => .inl ((it[k]?).getD 0, (it[k]?).getD 0)) k)), 0, 0)
  | 0, k, e => by
    have e : k = 4 := e
    subst e
    refine yreach.at (S' := (63, [(6, .inl (((4 : Nat) : Int), ((4 : Nat) : Int))), (5, .inl (zCn it 4, zCn it 4)), (4, .inr (.inr (1, q))), (3, .inr (.inr (1, o))), (0, .inr (.inr (1, 0))), (1, .inl (b, b)), (2, .inl (t, t))], [.inl (((4 : Nat) : Int), ((4 : Nat) : Int))], List.set (α := XC) w a (.inr (0, zfl ru 0 (fun k => .inl ((it[k]?).getD 0, (it[k]?).getD 0)) 4)), 0, 0)) (q := _) rfl rfl ?_
    refine yreach.at (S' := (64, [(6, .inl (((4 : Nat) : Int), ((4 : Nat) : Int))), (5, .inl (zCn it 4, zCn it 4)), (4, .inr (.inr (1, q))), (3, .inr (.inr (1, o))), (0, .inr (.inr (1, 0))), (1, .inl (b, b)), (2, .inl (t, t))], [.inl (4, 4), .inl (((4 : Nat) : Int), ((4 : Nat) : Int))], List.set (α := XC) w a (.inr (0, zfl ru 0 (fun k => .inl ((it[k]?).getD 0, (it[k]?).getD 0)) 4)), 0, 0)) (q := _) rfl rfl ?_
    refine yreach.at (S' := (112, [(6, .inl (((4 : Nat) : Int), ((4 : Nat) : Int))), (5, .inl (zCn it 4, zCn it 4)), (4, .inr (.inr (1, q))), (3, .inr (.inr (1, o))), (0, .inr (.inr (1, 0))), (1, .inl (b, b)), (2, .inl (t, t))], [], List.set (α := XC) w a (.inr (0, zfl ru 0 (fun k => .inl ((it[k]?).getD 0, (it[k]?).getD 0)) 4)), 0, 0)) (q := _) rfl (sx_icmp (o := true) (zcmp xge_of (decide_eq_true (by omega)))) ?_
    refine yreach.at (S' := (114, [(6, .inl (((4 : Nat) : Int), ((4 : Nat) : Int))), (5, .inl (zCn it 4, zCn it 4)), (4, .inr (.inr (1, q))), (3, .inr (.inr (1, o))), (0, .inr (.inr (1, 0))), (1, .inl (b, b)), (2, .inl (t, t))], [.inl (zCn it 4, zCn it 4)], List.set (α := XC) w a (.inr (0, zfl ru 0 (fun k => .inl ((it[k]?).getD 0, (it[k]?).getD 0)) 4)), 0, 0)) (q := _) rfl rfl ?_
    exact yreach.ret (q := (some (.inl (zCn it 4, zCn it 4)), List.set (α := XC) w a (.inr (0, zfl ru 0 (fun k => .inl ((it[k]?).getD 0, (it[k]?).getD 0)) 4)), 0, 0)) ((xstep_at rfl).trans rfl) rfl
  | m + 1, k, e => by
    obtain ⟨x, x1, x2, x3⟩ := zIt_at hit (k := k) (by omega)
    obtain ⟨c1, c2⟩ := zCn_b (it := it) (k := k)
    have ih := zcr_loop (q := q) (b := b) (t := t) hw g6 hr gr h15 ho gb ha hl hit n0 n14 n15 no m (k + 1) (by omega)
    have e1 : zfl ru 0 (fun k => .inl ((it[k]?).getD 0, (it[k]?).getD 0)) (k + 1) = (zfl ru 0 (fun k => .inl ((it[k]?).getD 0, (it[k]?).getD 0)) k).set k (.inl (x, x)) := by
      show (zfl ru 0 (fun k => .inl ((it[k]?).getD 0, (it[k]?).getD 0)) k).set (0 + k) (.inl ((it[k]?).getD 0, (it[k]?).getD 0)) = _
      rw [Nat.zero_add, x2]
    have e2 : zCn it (k + 1) = zCn it k + (if x = -9 then 0 else 1) := by
      show zCn it k + (if (it[k]?).getD 0 = -9 then 0 else 1) = _
      rw [x2]
    rw [e1, e2] at ih
    have al := (List.getElem?_eq_some_iff.mp ha).1
    have hw' : (List.set (α := XC) w a (.inr (0, zfl ru 0 (fun k => .inl ((it[k]?).getD 0, (it[k]?).getD 0)) k)))[0]? = some (.inl (9, fs)) := by
      rw [List.getElem?_set_ne n0]
      exact hw
    have hr' : (List.set (α := XC) w a (.inr (0, zfl ru 0 (fun k => .inl ((it[k]?).getD 0, (it[k]?).getD 0)) k)))[14]? = some (.inl (5, rd)) := by
      rw [List.getElem?_set_ne n14]
      exact hr
    have h15' : (List.set (α := XC) w a (.inr (0, zfl ru 0 (fun k => .inl ((it[k]?).getD 0, (it[k]?).getD 0)) k)))[15]? = some (.inr (0, zarr it)) := by
      rw [List.getElem?_set_ne n15]
      exact h15
    have ho' : (List.set (α := XC) w a (.inr (0, zfl ru 0 (fun k => .inl ((it[k]?).getD 0, (it[k]?).getD 0)) k)))[o]? = some (.inl (0, bf)) := by
      rw [List.getElem?_set_ne no]
      exact ho
    have hkl : k < (zfl ru 0 (fun k => .inl ((it[k]?).getD 0, (it[k]?).getD 0)) k).length := by
      rw [zfl_len, hl]
      omega
    have ho2 : (List.set (α := XC) w a (.inr (0, (zfl ru 0 (fun k => .inl ((it[k]?).getD 0, (it[k]?).getD 0)) k).set k (.inl (x, x)))))[o]? = some (.inl (0, bf)) := by
      rw [List.getElem?_set_ne no]
      exact ho
    have ha2 : (List.set (α := XC) w a (.inr (0, (zfl ru 0 (fun k => .inl ((it[k]?).getD 0, (it[k]?).getD 0)) k).set k (.inl (x, x)))))[a]? = some (.inr (0, (zfl ru 0 (fun k => .inl ((it[k]?).getD 0, (it[k]?).getD 0)) k).set k (.inl (x, x)))) := List.getElem?_set_self al
    refine yreach.at (S' := (63, [(6, .inl (((k : Nat) : Int), ((k : Nat) : Int))), (5, .inl (zCn it k, zCn it k)), (4, .inr (.inr (1, q))), (3, .inr (.inr (1, o))), (0, .inr (.inr (1, 0))), (1, .inl (b, b)), (2, .inl (t, t))], [.inl (((k : Nat) : Int), ((k : Nat) : Int))], List.set (α := XC) w a (.inr (0, zfl ru 0 (fun k => .inl ((it[k]?).getD 0, (it[k]?).getD 0)) k)), 0, 0)) (q := _) rfl rfl ?_
    refine yreach.at (S' := (64, [(6, .inl (((k : Nat) : Int), ((k : Nat) : Int))), (5, .inl (zCn it k, zCn it k)), (4, .inr (.inr (1, q))), (3, .inr (.inr (1, o))), (0, .inr (.inr (1, 0))), (1, .inl (b, b)), (2, .inl (t, t))], [.inl (4, 4), .inl (((k : Nat) : Int), ((k : Nat) : Int))], List.set (α := XC) w a (.inr (0, zfl ru 0 (fun k => .inl ((it[k]?).getD 0, (it[k]?).getD 0)) k)), 0, 0)) (q := _) rfl rfl ?_
    refine yreach.at (S' := (67, [(6, .inl (((k : Nat) : Int), ((k : Nat) : Int))), (5, .inl (zCn it k, zCn it k)), (4, .inr (.inr (1, q))), (3, .inr (.inr (1, o))), (0, .inr (.inr (1, 0))), (1, .inl (b, b)), (2, .inl (t, t))], [], List.set (α := XC) w a (.inr (0, zfl ru 0 (fun k => .inl ((it[k]?).getD 0, (it[k]?).getD 0)) k)), 0, 0)) (q := _) rfl (sx_icmp (o := false) (zcmp xge_of (decide_eq_false (by omega)))) ?_
    refine yreach.at (S' := (68, [(6, .inl (((k : Nat) : Int), ((k : Nat) : Int))), (5, .inl (zCn it k, zCn it k)), (4, .inr (.inr (1, q))), (3, .inr (.inr (1, o))), (0, .inr (.inr (1, 0))), (1, .inl (b, b)), (2, .inl (t, t))], [.inr (.inr (1, o))], List.set (α := XC) w a (.inr (0, zfl ru 0 (fun k => .inl ((it[k]?).getD 0, (it[k]?).getD 0)) k)), 0, 0)) (q := _) rfl rfl ?_
    refine yreach.at (S' := (71, [(6, .inl (((k : Nat) : Int), ((k : Nat) : Int))), (5, .inl (zCn it k, zCn it k)), (4, .inr (.inr (1, q))), (3, .inr (.inr (1, o))), (0, .inr (.inr (1, 0))), (1, .inl (b, b)), (2, .inl (t, t))], [.inr (.inr (1, a))], List.set (α := XC) w a (.inr (0, zfl ru 0 (fun k => .inl ((it[k]?).getD 0, (it[k]?).getD 0)) k)), 0, 0)) (q := _) rfl (sx_get ho' gb) ?_
    refine yreach.at (S' := (73, [(6, .inl (((k : Nat) : Int), ((k : Nat) : Int))), (5, .inl (zCn it k, zCn it k)), (4, .inr (.inr (1, q))), (3, .inr (.inr (1, o))), (0, .inr (.inr (1, 0))), (1, .inl (b, b)), (2, .inl (t, t))], [.inl (((k : Nat) : Int), ((k : Nat) : Int)), .inr (.inr (1, a))], List.set (α := XC) w a (.inr (0, zfl ru 0 (fun k => .inl ((it[k]?).getD 0, (it[k]?).getD 0)) k)), 0, 0)) (q := _) rfl rfl ?_
    refine yreach.at (S' := (74, [(6, .inl (((k : Nat) : Int), ((k : Nat) : Int))), (5, .inl (zCn it k, zCn it k)), (4, .inr (.inr (1, q))), (3, .inr (.inr (1, o))), (0, .inr (.inr (1, 0))), (1, .inl (b, b)), (2, .inl (t, t))], [.inr (.inr (1, 0)), .inl (((k : Nat) : Int), ((k : Nat) : Int)), .inr (.inr (1, a))], List.set (α := XC) w a (.inr (0, zfl ru 0 (fun k => .inl ((it[k]?).getD 0, (it[k]?).getD 0)) k)), 0, 0)) (q := _) rfl rfl ?_
    refine yreach.at (S' := (77, [(6, .inl (((k : Nat) : Int), ((k : Nat) : Int))), (5, .inl (zCn it k, zCn it k)), (4, .inr (.inr (1, q))), (3, .inr (.inr (1, o))), (0, .inr (.inr (1, 0))), (1, .inl (b, b)), (2, .inl (t, t))], [.inr (.inr (1, 14)), .inl (((k : Nat) : Int), ((k : Nat) : Int)), .inr (.inr (1, a))], List.set (α := XC) w a (.inr (0, zfl ru 0 (fun k => .inl ((it[k]?).getD 0, (it[k]?).getD 0)) k)), 0, 0)) (q := _) rfl (sx_get hw' g6) ?_
    refine yreach.at (S' := (80, [(6, .inl (((k : Nat) : Int), ((k : Nat) : Int))), (5, .inl (zCn it k, zCn it k)), (4, .inr (.inr (1, q))), (3, .inr (.inr (1, o))), (0, .inr (.inr (1, 0))), (1, .inl (b, b)), (2, .inl (t, t))], [.inr (.inr (1, 15)), .inl (((k : Nat) : Int), ((k : Nat) : Int)), .inr (.inr (1, a))], List.set (α := XC) w a (.inr (0, zfl ru 0 (fun k => .inl ((it[k]?).getD 0, (it[k]?).getD 0)) k)), 0, 0)) (q := _) rfl (sx_get hr' gr) ?_
    refine yreach.at (S' := (82, [(6, .inl (((k : Nat) : Int), ((k : Nat) : Int))), (5, .inl (zCn it k, zCn it k)), (4, .inr (.inr (1, q))), (3, .inr (.inr (1, o))), (0, .inr (.inr (1, 0))), (1, .inl (b, b)), (2, .inl (t, t))], [.inl (((k : Nat) : Int), ((k : Nat) : Int)), .inr (.inr (1, 15)), .inl (((k : Nat) : Int), ((k : Nat) : Int)), .inr (.inr (1, a))], List.set (α := XC) w a (.inr (0, zfl ru 0 (fun k => .inl ((it[k]?).getD 0, (it[k]?).getD 0)) k)), 0, 0)) (q := _) rfl rfl ?_
    refine yreach.at (S' := (83, [(6, .inl (((k : Nat) : Int), ((k : Nat) : Int))), (5, .inl (zCn it k, zCn it k)), (4, .inr (.inr (1, q))), (3, .inr (.inr (1, o))), (0, .inr (.inr (1, 0))), (1, .inl (b, b)), (2, .inl (t, t))], [.inl (x, x), .inl (((k : Nat) : Int), ((k : Nat) : Int)), .inr (.inr (1, a))], List.set (α := XC) w a (.inr (0, zfl ru 0 (fun k => .inl ((it[k]?).getD 0, (it[k]?).getD 0)) k)), 0, 0)) (q := _) rfl (sx_iald h15' (zread (zarr_at x1))) ?_
    refine yreach.at (S' := (84, [(6, .inl (((k : Nat) : Int), ((k : Nat) : Int))), (5, .inl (zCn it k, zCn it k)), (4, .inr (.inr (1, q))), (3, .inr (.inr (1, o))), (0, .inr (.inr (1, 0))), (1, .inl (b, b)), (2, .inl (t, t))], [], List.set (α := XC) w a (.inr (0, (zfl ru 0 (fun k => .inl ((it[k]?).getD 0, (it[k]?).getD 0)) k).set k (.inl (x, x)))), 0, 0)) (q := _) rfl (sx_iastS al (zwrite hkl)) ?_
    refine yreach.at (S' := (86, [(6, .inl (((k : Nat) : Int), ((k : Nat) : Int))), (5, .inl (zCn it k, zCn it k)), (4, .inr (.inr (1, q))), (3, .inr (.inr (1, o))), (0, .inr (.inr (1, 0))), (1, .inl (b, b)), (2, .inl (t, t))], [.inl (zCn it k, zCn it k)], List.set (α := XC) w a (.inr (0, (zfl ru 0 (fun k => .inl ((it[k]?).getD 0, (it[k]?).getD 0)) k).set k (.inl (x, x)))), 0, 0)) (q := _) rfl rfl ?_
    refine yreach.at (S' := (87, [(6, .inl (((k : Nat) : Int), ((k : Nat) : Int))), (5, .inl (zCn it k, zCn it k)), (4, .inr (.inr (1, q))), (3, .inr (.inr (1, o))), (0, .inr (.inr (1, 0))), (1, .inl (b, b)), (2, .inl (t, t))], [.inr (.inr (1, o)), .inl (zCn it k, zCn it k)], List.set (α := XC) w a (.inr (0, (zfl ru 0 (fun k => .inl ((it[k]?).getD 0, (it[k]?).getD 0)) k).set k (.inl (x, x)))), 0, 0)) (q := _) rfl rfl ?_
    refine yreach.at (S' := (90, [(6, .inl (((k : Nat) : Int), ((k : Nat) : Int))), (5, .inl (zCn it k, zCn it k)), (4, .inr (.inr (1, q))), (3, .inr (.inr (1, o))), (0, .inr (.inr (1, 0))), (1, .inl (b, b)), (2, .inl (t, t))], [.inr (.inr (1, a)), .inl (zCn it k, zCn it k)], List.set (α := XC) w a (.inr (0, (zfl ru 0 (fun k => .inl ((it[k]?).getD 0, (it[k]?).getD 0)) k).set k (.inl (x, x)))), 0, 0)) (q := _) rfl (sx_get ho2 gb) ?_
    refine yreach.at (S' := (92, [(6, .inl (((k : Nat) : Int), ((k : Nat) : Int))), (5, .inl (zCn it k, zCn it k)), (4, .inr (.inr (1, q))), (3, .inr (.inr (1, o))), (0, .inr (.inr (1, 0))), (1, .inl (b, b)), (2, .inl (t, t))], [.inl (((k : Nat) : Int), ((k : Nat) : Int)), .inr (.inr (1, a)), .inl (zCn it k, zCn it k)], List.set (α := XC) w a (.inr (0, (zfl ru 0 (fun k => .inl ((it[k]?).getD 0, (it[k]?).getD 0)) k).set k (.inl (x, x)))), 0, 0)) (q := _) rfl rfl ?_
    refine yreach.at (S' := (93, [(6, .inl (((k : Nat) : Int), ((k : Nat) : Int))), (5, .inl (zCn it k, zCn it k)), (4, .inr (.inr (1, q))), (3, .inr (.inr (1, o))), (0, .inr (.inr (1, 0))), (1, .inl (b, b)), (2, .inl (t, t))], [.inl (x, x), .inl (zCn it k, zCn it k)], List.set (α := XC) w a (.inr (0, (zfl ru 0 (fun k => .inl ((it[k]?).getD 0, (it[k]?).getD 0)) k).set k (.inl (x, x)))), 0, 0)) (q := _) rfl (sx_iald ha2 (zread (List.getElem?_set_self hkl))) ?_
    by_cases h9 : x = -9
    · refine yreach.at (S' := (95, [(6, .inl (((k : Nat) : Int), ((k : Nat) : Int))), (5, .inl (zCn it k, zCn it k)), (4, .inr (.inr (1, q))), (3, .inr (.inr (1, o))), (0, .inr (.inr (1, 0))), (1, .inl (b, b)), (2, .inl (t, t))], [.inl (-9, -9), .inl (x, x), .inl (zCn it k, zCn it k)], List.set (α := XC) w a (.inr (0, (zfl ru 0 (fun k => .inl ((it[k]?).getD 0, (it[k]?).getD 0)) k).set k (.inl (x, x)))), 0, 0)) (q := _) rfl rfl ?_
      refine yreach.at (S' := (98, [(6, .inl (((k : Nat) : Int), ((k : Nat) : Int))), (5, .inl (zCn it k, zCn it k)), (4, .inr (.inr (1, q))), (3, .inr (.inr (1, o))), (0, .inr (.inr (1, 0))), (1, .inl (b, b)), (2, .inl (t, t))], [.inl (zCn it k, zCn it k)], List.set (α := XC) w a (.inr (0, (zfl ru 0 (fun k => .inl ((it[k]?).getD 0, (it[k]?).getD 0)) k).set k (.inl (x, x)))), 0, 0)) (q := _) rfl (sx_icmp (o := false) (zcmp xcne_of (decide_eq_false (by omega)))) ?_
      refine yreach.at (S' := (99, [(6, .inl (((k : Nat) : Int), ((k : Nat) : Int))), (5, .inl (zCn it k, zCn it k)), (4, .inr (.inr (1, q))), (3, .inr (.inr (1, o))), (0, .inr (.inr (1, 0))), (1, .inl (b, b)), (2, .inl (t, t))], [.inl (0, 0), .inl (zCn it k, zCn it k)], List.set (α := XC) w a (.inr (0, (zfl ru 0 (fun k => .inl ((it[k]?).getD 0, (it[k]?).getD 0)) k).set k (.inl (x, x)))), 0, 0)) (q := _) rfl rfl ?_
      refine yreach.at (S' := (103, [(6, .inl (((k : Nat) : Int), ((k : Nat) : Int))), (5, .inl (zCn it k, zCn it k)), (4, .inr (.inr (1, q))), (3, .inr (.inr (1, o))), (0, .inr (.inr (1, 0))), (1, .inl (b, b)), (2, .inl (t, t))], [.inl (0, 0), .inl (zCn it k, zCn it k)], List.set (α := XC) w a (.inr (0, (zfl ru 0 (fun k => .inl ((it[k]?).getD 0, (it[k]?).getD 0)) k).set k (.inl (x, x)))), 0, 0)) (q := _) rfl rfl ?_
      refine yreach.at (S' := (104, [(6, .inl (((k : Nat) : Int), ((k : Nat) : Int))), (5, .inl (zCn it k, zCn it k)), (4, .inr (.inr (1, q))), (3, .inr (.inr (1, o))), (0, .inr (.inr (1, 0))), (1, .inl (b, b)), (2, .inl (t, t))], [.inl ((zCn it k + 0), (zCn it k + 0))], List.set (α := XC) w a (.inr (0, (zfl ru 0 (fun k => .inl ((it[k]?).getD 0, (it[k]?).getD 0)) k).set k (.inl (x, x)))), 0, 0)) (q := _) rfl (sx_bin rfl (zadd (by rfl) (by omega))) ?_
      refine yreach.at (S' := (106, [(5, .inl ((zCn it k + 0), (zCn it k + 0))), (6, .inl (((k : Nat) : Int), ((k : Nat) : Int))), (4, .inr (.inr (1, q))), (3, .inr (.inr (1, o))), (0, .inr (.inr (1, 0))), (1, .inl (b, b)), (2, .inl (t, t))], [], List.set (α := XC) w a (.inr (0, (zfl ru 0 (fun k => .inl ((it[k]?).getD 0, (it[k]?).getD 0)) k).set k (.inl (x, x)))), 0, 0)) (q := _) rfl rfl ?_
      refine yreach.at (S' := (109, [(6, .inl ((((k : Nat) : Int) + 1), (((k : Nat) : Int) + 1))), (5, .inl ((zCn it k + 0), (zCn it k + 0))), (4, .inr (.inr (1, q))), (3, .inr (.inr (1, o))), (0, .inr (.inr (1, 0))), (1, .inl (b, b)), (2, .inl (t, t))], [], List.set (α := XC) w a (.inr (0, (zfl ru 0 (fun k => .inl ((it[k]?).getD 0, (it[k]?).getD 0)) k).set k (.inl (x, x)))), 0, 0)) (q := _) rfl (sx_iinc (z := 1) rfl (Nat.le_of_ble_eq_true rfl) (by omega)) ?_
      refine yreach.at (S' := (61, [(6, .inl ((((k : Nat) : Int) + 1), (((k : Nat) : Int) + 1))), (5, .inl ((zCn it k + 0), (zCn it k + 0))), (4, .inr (.inr (1, q))), (3, .inr (.inr (1, o))), (0, .inr (.inr (1, 0))), (1, .inl (b, b)), (2, .inl (t, t))], [], List.set (α := XC) w a (.inr (0, (zfl ru 0 (fun k => .inl ((it[k]?).getD 0, (it[k]?).getD 0)) k).set k (.inl (x, x)))), 0, 0)) (q := _) rfl rfl ?_
      rw [if_pos h9] at ih
      exact ih
    · refine yreach.at (S' := (95, [(6, .inl (((k : Nat) : Int), ((k : Nat) : Int))), (5, .inl (zCn it k, zCn it k)), (4, .inr (.inr (1, q))), (3, .inr (.inr (1, o))), (0, .inr (.inr (1, 0))), (1, .inl (b, b)), (2, .inl (t, t))], [.inl (-9, -9), .inl (x, x), .inl (zCn it k, zCn it k)], List.set (α := XC) w a (.inr (0, (zfl ru 0 (fun k => .inl ((it[k]?).getD 0, (it[k]?).getD 0)) k).set k (.inl (x, x)))), 0, 0)) (q := _) rfl rfl ?_
      refine yreach.at (S' := (102, [(6, .inl (((k : Nat) : Int), ((k : Nat) : Int))), (5, .inl (zCn it k, zCn it k)), (4, .inr (.inr (1, q))), (3, .inr (.inr (1, o))), (0, .inr (.inr (1, 0))), (1, .inl (b, b)), (2, .inl (t, t))], [.inl (zCn it k, zCn it k)], List.set (α := XC) w a (.inr (0, (zfl ru 0 (fun k => .inl ((it[k]?).getD 0, (it[k]?).getD 0)) k).set k (.inl (x, x)))), 0, 0)) (q := _) rfl (sx_icmp (o := true) (zcmp xcne_of (decide_eq_true (by omega)))) ?_
      refine yreach.at (S' := (103, [(6, .inl (((k : Nat) : Int), ((k : Nat) : Int))), (5, .inl (zCn it k, zCn it k)), (4, .inr (.inr (1, q))), (3, .inr (.inr (1, o))), (0, .inr (.inr (1, 0))), (1, .inl (b, b)), (2, .inl (t, t))], [.inl (1, 1), .inl (zCn it k, zCn it k)], List.set (α := XC) w a (.inr (0, (zfl ru 0 (fun k => .inl ((it[k]?).getD 0, (it[k]?).getD 0)) k).set k (.inl (x, x)))), 0, 0)) (q := _) rfl rfl ?_
      refine yreach.at (S' := (104, [(6, .inl (((k : Nat) : Int), ((k : Nat) : Int))), (5, .inl (zCn it k, zCn it k)), (4, .inr (.inr (1, q))), (3, .inr (.inr (1, o))), (0, .inr (.inr (1, 0))), (1, .inl (b, b)), (2, .inl (t, t))], [.inl ((zCn it k + 1), (zCn it k + 1))], List.set (α := XC) w a (.inr (0, (zfl ru 0 (fun k => .inl ((it[k]?).getD 0, (it[k]?).getD 0)) k).set k (.inl (x, x)))), 0, 0)) (q := _) rfl (sx_bin rfl (zadd (by rfl) (by omega))) ?_
      refine yreach.at (S' := (106, [(5, .inl ((zCn it k + 1), (zCn it k + 1))), (6, .inl (((k : Nat) : Int), ((k : Nat) : Int))), (4, .inr (.inr (1, q))), (3, .inr (.inr (1, o))), (0, .inr (.inr (1, 0))), (1, .inl (b, b)), (2, .inl (t, t))], [], List.set (α := XC) w a (.inr (0, (zfl ru 0 (fun k => .inl ((it[k]?).getD 0, (it[k]?).getD 0)) k).set k (.inl (x, x)))), 0, 0)) (q := _) rfl rfl ?_
      refine yreach.at (S' := (109, [(6, .inl ((((k : Nat) : Int) + 1), (((k : Nat) : Int) + 1))), (5, .inl ((zCn it k + 1), (zCn it k + 1))), (4, .inr (.inr (1, q))), (3, .inr (.inr (1, o))), (0, .inr (.inr (1, 0))), (1, .inl (b, b)), (2, .inl (t, t))], [], List.set (α := XC) w a (.inr (0, (zfl ru 0 (fun k => .inl ((it[k]?).getD 0, (it[k]?).getD 0)) k).set k (.inl (x, x)))), 0, 0)) (q := _) rfl (sx_iinc (z := 1) rfl (Nat.le_of_ble_eq_true rfl) (by omega)) ?_
      refine yreach.at (S' := (61, [(6, .inl ((((k : Nat) : Int) + 1), (((k : Nat) : Int) + 1))), (5, .inl ((zCn it k + 1), (zCn it k + 1))), (4, .inr (.inr (1, q))), (3, .inr (.inr (1, o))), (0, .inr (.inr (1, 0))), (1, .inl (b, b)), (2, .inl (t, t))], [], List.set (α := XC) w a (.inr (0, (zfl ru 0 (fun k => .inl ((it[k]?).getD 0, (it[k]?).getD 0)) k).set k (.inl (x, x)))), 0, 0)) (q := _) rfl rfl ?_
      rw [if_neg h9] at ih
      exact ih
set_option maxHeartbeats 8000000 in
theorem zc_rules {ks : List Nat} {w : XW} {S T : ZS} (hU : zU ks w S T) {b a : Int} : ∃ w', XMet l D vwCl (tysX tA) tA ex (xSTX ++ [sc]) xSV xNW xNF xTs xm108 [.inr (.inr (1, 0)), .inl (b, b), .inl (a, a)] w (some (.inl ((zRuA S b a), (zRuA S b a)))) w' ∧ zU ks w' S T := by
  obtain ⟨fs, hw, g1, g2⟩ := zf0 hU.1 hU.2.1
  obtain ⟨g6, ⟨rd, hr, gr⟩, e1, e2, e3, e4, hn⟩ := zf14 hU.1 hU.2.1 hw
  obtain ⟨g3, fl, h11, hboat⟩ := zboat hU.1 hU.2.1 hw
  by_cases hb : 0 ≤ b ∧ b < 6
  · obtain ⟨u, rfl⟩ : ∃ r : Nat, b = (r : Int) := ⟨b.toNat, by omega⟩
    have hu : u < 6 := by omega
    obtain ⟨o, bf, x, ru, o1, ko, o2, gb, kx, x1, xl⟩ := hboat u hu
    by_cases ha : 0 ≤ a ∧ a < 4
    · obtain ⟨r, rfl⟩ : ∃ r : Nat, a = (r : Int) := ⟨a.toNat, by omega⟩
      have hr4 : r < 4 := by omega
      have hs : 6 + r < 10 := by omega
      obtain ⟨z, es, c1, c2, c3, c4⟩ := hU.2.2.1.2.2 (6 + r) hs
      have n0 : ¬ ((u : Int) < 0 ∨ 6 ≤ (u : Int) ∨ (r : Int) < 0 ∨ 4 ≤ (r : Int)) := by omega
      have eA : zRuA S (u : Int) (r : Int) = (match S (6 + r) with
        | none => -3
        | some L => if (zPr L 40 0 [-9, -9, -9, -9]).1 = -9 then zCn (zPr L 40 0 [-9, -9, -9, -9]).2 4 else -4) := if_neg n0
      rw [eA]
      cases hS : S (6 + r) with
      | none =>
        rw [hS] at c4
        obtain ⟨w2, m2, hU2⟩ := zfound (l := l) (D := D) (tA := tA) (ex := ex) (sc := sc) hU (v := 1) (by decide)
        refine ⟨w2, zex (j := 108) rfl (Nat.le_of_ble_eq_true rfl) ?_, hU2⟩
        refine yreach.at (S' := (1, [(0, .inr (.inr (1, 0))), (1, .inl ((u : Int), (u : Int))), (2, .inl ((r : Int), (r : Int)))], [.inr (.inr (1, 0))], w, 0, 0)) (q := _) rfl rfl ?_
        refine yreach.at (S' := (2, [(0, .inr (.inr (1, 0))), (1, .inl ((u : Int), (u : Int))), (2, .inl ((r : Int), (r : Int)))], [.inl ((u : Int), (u : Int)), .inr (.inr (1, 0))], w, 0, 0)) (q := _) rfl rfl ?_
        refine ycall_at (N := xm38) (ro := some (.inr (.inr (1, o)))) (w' := w) (recv := true) (i := .invokevirtual 155) (a := 38) (na := 2) (z := 0) rfl (fun _ => rfl) rfl (zbt_in hw g3 h11 hu o1) ⟨Nat.le_of_ble_eq_true rfl, Nat.le_of_ble_eq_true rfl, Nat.le_of_ble_eq_true rfl, Nat.le_of_ble_eq_true rfl, Nat.le_of_ble_eq_true rfl, Nat.le_of_ble_eq_true rfl, (xrecv_at (as := [.inl ((u : Int), (u : Int))]) hw)⟩ ?_
        show yreach (ySt sc xm108) (yJm l D tA ex sc xm108) (_) (5, [(0, .inr (.inr (1, 0))), (1, .inl ((u : Int), (u : Int))), (2, .inl ((r : Int), (r : Int)))], [.inr (.inr (1, o))], w, 0, 0)
        refine yreach.at (S' := (6, [(3, .inr (.inr (1, o))), (0, .inr (.inr (1, 0))), (1, .inl ((u : Int), (u : Int))), (2, .inl ((r : Int), (r : Int)))], [], w, 0, 0)) (q := _) rfl rfl ?_
        refine yreach.at (S' := (7, [(3, .inr (.inr (1, o))), (0, .inr (.inr (1, 0))), (1, .inl ((u : Int), (u : Int))), (2, .inl ((r : Int), (r : Int)))], [.inr (.inr (1, 0))], w, 0, 0)) (q := _) rfl rfl ?_
        refine yreach.at (S' := (8, [(3, .inr (.inr (1, o))), (0, .inr (.inr (1, 0))), (1, .inl ((u : Int), (u : Int))), (2, .inl ((r : Int), (r : Int)))], [.inl ((r : Int), (r : Int)), .inr (.inr (1, 0))], w, 0, 0)) (q := _) rfl rfl ?_
        refine ycall_at (N := xm20) (ro := some (.inr (.inr (1, 25 + 2 * (6 + r))))) (w' := w) (recv := true) (i := .invokevirtual 113) (a := 20) (na := 2) (z := 0) rfl (fun _ => rfl) rfl (ztxt_in hU hr4) ⟨Nat.le_of_ble_eq_true rfl, Nat.le_of_ble_eq_true rfl, Nat.le_of_ble_eq_true rfl, Nat.le_of_ble_eq_true rfl, Nat.le_of_ble_eq_true rfl, Nat.le_of_ble_eq_true rfl, (xrecv_at (as := [.inl ((r : Int), (r : Int))]) hw)⟩ ?_
        show yreach (ySt sc xm108) (yJm l D tA ex sc xm108) (_) (11, [(3, .inr (.inr (1, o))), (0, .inr (.inr (1, 0))), (1, .inl ((u : Int), (u : Int))), (2, .inl ((r : Int), (r : Int)))], [.inr (.inr (1, 25 + 2 * (6 + r)))], w, 0, 0)
        refine yreach.at (S' := (13, [(4, .inr (.inr (1, 25 + 2 * (6 + r)))), (3, .inr (.inr (1, o))), (0, .inr (.inr (1, 0))), (1, .inl ((u : Int), (u : Int))), (2, .inl ((r : Int), (r : Int)))], [], w, 0, 0)) (q := _) rfl rfl ?_
        refine yreach.at (S' := (14, [(4, .inr (.inr (1, 25 + 2 * (6 + r)))), (3, .inr (.inr (1, o))), (0, .inr (.inr (1, 0))), (1, .inl ((u : Int), (u : Int))), (2, .inl ((r : Int), (r : Int)))], [.inr (.inr (1, o))], w, 0, 0)) (q := _) rfl rfl ?_
        refine yreach.at (S' := (17, [(4, .inr (.inr (1, 25 + 2 * (6 + r)))), (3, .inr (.inr (1, o))), (0, .inr (.inr (1, 0))), (1, .inl ((u : Int), (u : Int))), (2, .inl ((r : Int), (r : Int)))], [], w, 0, 0)) (q := _) rfl rfl ?_
        refine yreach.at (S' := (19, [(4, .inr (.inr (1, 25 + 2 * (6 + r)))), (3, .inr (.inr (1, o))), (0, .inr (.inr (1, 0))), (1, .inl ((u : Int), (u : Int))), (2, .inl ((r : Int), (r : Int)))], [.inr (.inr (1, 25 + 2 * (6 + r)))], w, 0, 0)) (q := _) rfl rfl ?_
        refine yreach.at (S' := (24, [(4, .inr (.inr (1, 25 + 2 * (6 + r)))), (3, .inr (.inr (1, o))), (0, .inr (.inr (1, 0))), (1, .inl ((u : Int), (u : Int))), (2, .inl ((r : Int), (r : Int)))], [], w, 0, 0)) (q := _) rfl rfl ?_
        refine yreach.at (S' := (26, [(4, .inr (.inr (1, 25 + 2 * (6 + r)))), (3, .inr (.inr (1, o))), (0, .inr (.inr (1, 0))), (1, .inl ((u : Int), (u : Int))), (2, .inl ((r : Int), (r : Int)))], [.inr (.inr (1, 25 + 2 * (6 + r)))], w, 0, 0)) (q := _) rfl rfl ?_
        refine ycall_at (N := xm13) (ro := some (.inl (1, 1))) (w' := w) (recv := true) (i := .invokevirtual 90) (a := 13) (na := 1) (z := 0) rfl (fun _ => rfl) rfl (zmis_y c1 c4) ⟨Nat.le_of_ble_eq_true rfl, Nat.le_of_ble_eq_true rfl, Nat.le_of_ble_eq_true rfl, Nat.le_of_ble_eq_true rfl, Nat.le_of_ble_eq_true rfl, Nat.le_of_ble_eq_true rfl, (xrecv_at (as := []) c1)⟩ ?_
        show yreach (ySt sc xm108) (yJm l D tA ex sc xm108) (_) (29, [(4, .inr (.inr (1, 25 + 2 * (6 + r)))), (3, .inr (.inr (1, o))), (0, .inr (.inr (1, 0))), (1, .inl ((u : Int), (u : Int))), (2, .inl ((r : Int), (r : Int)))], [.inl (1, 1)], w, 0, 0)
        refine yreach.at (S' := (32, [(4, .inr (.inr (1, 25 + 2 * (6 + r)))), (3, .inr (.inr (1, o))), (0, .inr (.inr (1, 0))), (1, .inl ((u : Int), (u : Int))), (2, .inl ((r : Int), (r : Int)))], [], w, 0, 0)) (q := _) rfl (sx_if (o := false) (zcmp xceq_of (decide_eq_false (by omega)))) ?_
        refine yreach.at (S' := (33, [(4, .inr (.inr (1, 25 + 2 * (6 + r)))), (3, .inr (.inr (1, o))), (0, .inr (.inr (1, 0))), (1, .inl ((u : Int), (u : Int))), (2, .inl ((r : Int), (r : Int)))], [.inr (.inr (1, 0))], w, 0, 0)) (q := _) rfl rfl ?_
        refine yreach.at (S' := (34, [(4, .inr (.inr (1, 25 + 2 * (6 + r)))), (3, .inr (.inr (1, o))), (0, .inr (.inr (1, 0))), (1, .inl ((u : Int), (u : Int))), (2, .inl ((r : Int), (r : Int)))], [.inl (1, 1), .inr (.inr (1, 0))], w, 0, 0)) (q := _) rfl rfl ?_
        refine ycall_at (N := xm10) (ro := some (.inl (-3, -3))) (w' := w2) (recv := true) (i := .invokevirtual 82) (a := 10) (na := 2) (z := 0) rfl (fun _ => rfl) rfl m2 ⟨Nat.le_of_ble_eq_true rfl, Nat.le_of_ble_eq_true rfl, Nat.le_of_ble_eq_true rfl, Nat.le_of_ble_eq_true rfl, Nat.le_of_ble_eq_true rfl, Nat.le_of_ble_eq_true rfl, (xrecv_at (as := [.inl (1, 1)]) hw)⟩ ?_
        show yreach (ySt sc xm108) (yJm l D tA ex sc xm108) (_) (37, [(4, .inr (.inr (1, 25 + 2 * (6 + r)))), (3, .inr (.inr (1, o))), (0, .inr (.inr (1, 0))), (1, .inl ((u : Int), (u : Int))), (2, .inl ((r : Int), (r : Int)))], [.inl (-3, -3)], w2, 0, 0)
        exact yreach.ret (q := (some (.inl (-3, -3)), w2, 0, 0)) ((xstep_at rfl).trans rfl) rfl
      | some L =>
        rw [hS] at c4
        have hL40 := c4.2.1
        have hzL := c4.1
        subst hzL
        have he : ∀ (j : Nat) (v : Int), L[j]? = some v → es[j]? = some (.inl (v, v)) := fun j v hj => by
          have h3 := c4.2.2 j v hj
          rw [Nat.zero_add] at h3
          exact h3
        have mr := zc_read (l := l) (D := D) (tA := tA) (ex := ex) (sc := sc) c1 c2 he hL40 hr gr hn (by omega) (by omega)
        have hU2 : zU ks (List.set (α := XC) w 15 (.inr (0, zarr (zPr L 40 0 [-9, -9, -9, -9]).2))) S T := zU_arr hU (hU.2.1.at (i := 15) (k := 23) rfl) (show yKD 23 = some yK_23 from rfl) hn (zarr_len.trans (zPr_it zit0).1) (zarr_ty (zPr_it zit0)) rfl rfl
        dsimp only
        have hit := zPr_it (L := L) (f := 40) (i := 0) zit0
        generalize hP : zPr L 40 0 [-9, -9, -9, -9] = P at mr hU2 hit ⊢
        by_cases hF : P.1 = -9
        · rw [if_pos hF]
          have d15 : ∀ (i k : Nat), ks[i]? = some k → k ≠ 23 → i ≠ 15 := fun i k hi hk e => by
            rw [e, hU.2.1.at (i := 15) (k := 23) rfl] at hi
            exact hk (Option.some.inj hi).symm
          have dx : ∀ (i k : Nat), ks[i]? = some k → k ≠ 15 → x ≠ i := fun i k hi hk e => by
            rw [e, hi] at kx
            exact hk (Option.some.inj kx)
          have w15 : (List.set (α := XC) w 15 (.inr (0, zarr P.2)))[15]? = some (.inr (0, zarr P.2)) := List.getElem?_set_self (List.getElem?_eq_some_iff.mp hn).1
          have hw' : (List.set (α := XC) w 15 (.inr (0, zarr P.2)))[0]? = some (.inl (9, fs)) := by
            rw [List.getElem?_set_ne (by decide)]
            exact hw
          have hr' : (List.set (α := XC) w 15 (.inr (0, zarr P.2)))[14]? = some (.inl (5, rd)) := by
            rw [List.getElem?_set_ne (by decide)]
            exact hr
          have o2' : (List.set (α := XC) w 15 (.inr (0, zarr P.2)))[o]? = some (.inl (0, bf)) := by
            rw [List.getElem?_set_ne (fun e => d15 o 14 ko (by decide) e.symm)]
            exact o2
          have x1' : (List.set (α := XC) w 15 (.inr (0, zarr P.2)))[x]? = some (.inr (0, ru)) := by
            rw [List.getElem?_set_ne (fun e => d15 x 15 kx (by decide) e.symm)]
            exact x1
          have e0 := zself x1'
          have hU3 : zU ks (List.set (α := XC) (List.set (α := XC) w 15 (.inr (0, zarr P.2))) x (.inr (0, zfl ru 0 (fun k => .inl ((P.2[k]?).getD 0, (P.2[k]?).getD 0)) 4))) S T := zU_arr hU2 kx (show yKD 15 = some yK_15 from rfl) x1' (zfl_len.trans xl) (zty_fl (zty_of hU2.1 kx (show yKD 15 = some yK_15 from rfl) x1').1 (fun k hk => by
            obtain ⟨y, _, y2, y3⟩ := zIt_at hit hk
            exact ⟨y, by rw [y2], by omega, by omega⟩)) rfl rfl
          refine ⟨_, zex (j := 108) rfl (Nat.le_of_ble_eq_true rfl) ?_, hU3⟩
          refine yreach.at (S' := (1, [(0, .inr (.inr (1, 0))), (1, .inl ((u : Int), (u : Int))), (2, .inl ((r : Int), (r : Int)))], [.inr (.inr (1, 0))], w, 0, 0)) (q := _) rfl rfl ?_
          refine yreach.at (S' := (2, [(0, .inr (.inr (1, 0))), (1, .inl ((u : Int), (u : Int))), (2, .inl ((r : Int), (r : Int)))], [.inl ((u : Int), (u : Int)), .inr (.inr (1, 0))], w, 0, 0)) (q := _) rfl rfl ?_
          refine ycall_at (N := xm38) (ro := some (.inr (.inr (1, o)))) (w' := w) (recv := true) (i := .invokevirtual 155) (a := 38) (na := 2) (z := 0) rfl (fun _ => rfl) rfl (zbt_in hw g3 h11 hu o1) ⟨Nat.le_of_ble_eq_true rfl, Nat.le_of_ble_eq_true rfl, Nat.le_of_ble_eq_true rfl, Nat.le_of_ble_eq_true rfl, Nat.le_of_ble_eq_true rfl, Nat.le_of_ble_eq_true rfl, (xrecv_at (as := [.inl ((u : Int), (u : Int))]) hw)⟩ ?_
          show yreach (ySt sc xm108) (yJm l D tA ex sc xm108) (_) (5, [(0, .inr (.inr (1, 0))), (1, .inl ((u : Int), (u : Int))), (2, .inl ((r : Int), (r : Int)))], [.inr (.inr (1, o))], w, 0, 0)
          refine yreach.at (S' := (6, [(3, .inr (.inr (1, o))), (0, .inr (.inr (1, 0))), (1, .inl ((u : Int), (u : Int))), (2, .inl ((r : Int), (r : Int)))], [], w, 0, 0)) (q := _) rfl rfl ?_
          refine yreach.at (S' := (7, [(3, .inr (.inr (1, o))), (0, .inr (.inr (1, 0))), (1, .inl ((u : Int), (u : Int))), (2, .inl ((r : Int), (r : Int)))], [.inr (.inr (1, 0))], w, 0, 0)) (q := _) rfl rfl ?_
          refine yreach.at (S' := (8, [(3, .inr (.inr (1, o))), (0, .inr (.inr (1, 0))), (1, .inl ((u : Int), (u : Int))), (2, .inl ((r : Int), (r : Int)))], [.inl ((r : Int), (r : Int)), .inr (.inr (1, 0))], w, 0, 0)) (q := _) rfl rfl ?_
          refine ycall_at (N := xm20) (ro := some (.inr (.inr (1, 25 + 2 * (6 + r))))) (w' := w) (recv := true) (i := .invokevirtual 113) (a := 20) (na := 2) (z := 0) rfl (fun _ => rfl) rfl (ztxt_in hU hr4) ⟨Nat.le_of_ble_eq_true rfl, Nat.le_of_ble_eq_true rfl, Nat.le_of_ble_eq_true rfl, Nat.le_of_ble_eq_true rfl, Nat.le_of_ble_eq_true rfl, Nat.le_of_ble_eq_true rfl, (xrecv_at (as := [.inl ((r : Int), (r : Int))]) hw)⟩ ?_
          show yreach (ySt sc xm108) (yJm l D tA ex sc xm108) (_) (11, [(3, .inr (.inr (1, o))), (0, .inr (.inr (1, 0))), (1, .inl ((u : Int), (u : Int))), (2, .inl ((r : Int), (r : Int)))], [.inr (.inr (1, 25 + 2 * (6 + r)))], w, 0, 0)
          refine yreach.at (S' := (13, [(4, .inr (.inr (1, 25 + 2 * (6 + r)))), (3, .inr (.inr (1, o))), (0, .inr (.inr (1, 0))), (1, .inl ((u : Int), (u : Int))), (2, .inl ((r : Int), (r : Int)))], [], w, 0, 0)) (q := _) rfl rfl ?_
          refine yreach.at (S' := (14, [(4, .inr (.inr (1, 25 + 2 * (6 + r)))), (3, .inr (.inr (1, o))), (0, .inr (.inr (1, 0))), (1, .inl ((u : Int), (u : Int))), (2, .inl ((r : Int), (r : Int)))], [.inr (.inr (1, o))], w, 0, 0)) (q := _) rfl rfl ?_
          refine yreach.at (S' := (17, [(4, .inr (.inr (1, 25 + 2 * (6 + r)))), (3, .inr (.inr (1, o))), (0, .inr (.inr (1, 0))), (1, .inl ((u : Int), (u : Int))), (2, .inl ((r : Int), (r : Int)))], [], w, 0, 0)) (q := _) rfl rfl ?_
          refine yreach.at (S' := (19, [(4, .inr (.inr (1, 25 + 2 * (6 + r)))), (3, .inr (.inr (1, o))), (0, .inr (.inr (1, 0))), (1, .inl ((u : Int), (u : Int))), (2, .inl ((r : Int), (r : Int)))], [.inr (.inr (1, 25 + 2 * (6 + r)))], w, 0, 0)) (q := _) rfl rfl ?_
          refine yreach.at (S' := (24, [(4, .inr (.inr (1, 25 + 2 * (6 + r)))), (3, .inr (.inr (1, o))), (0, .inr (.inr (1, 0))), (1, .inl ((u : Int), (u : Int))), (2, .inl ((r : Int), (r : Int)))], [], w, 0, 0)) (q := _) rfl rfl ?_
          refine yreach.at (S' := (26, [(4, .inr (.inr (1, 25 + 2 * (6 + r)))), (3, .inr (.inr (1, o))), (0, .inr (.inr (1, 0))), (1, .inl ((u : Int), (u : Int))), (2, .inl ((r : Int), (r : Int)))], [.inr (.inr (1, 25 + 2 * (6 + r)))], w, 0, 0)) (q := _) rfl rfl ?_
          refine ycall_at (N := xm13) (ro := some (.inl (0, 0))) (w' := w) (recv := true) (i := .invokevirtual 90) (a := 13) (na := 1) (z := 0) rfl (fun _ => rfl) rfl (zmis_n c1 (by omega)) ⟨Nat.le_of_ble_eq_true rfl, Nat.le_of_ble_eq_true rfl, Nat.le_of_ble_eq_true rfl, Nat.le_of_ble_eq_true rfl, Nat.le_of_ble_eq_true rfl, Nat.le_of_ble_eq_true rfl, (xrecv_at (as := []) c1)⟩ ?_
          show yreach (ySt sc xm108) (yJm l D tA ex sc xm108) (_) (29, [(4, .inr (.inr (1, 25 + 2 * (6 + r)))), (3, .inr (.inr (1, o))), (0, .inr (.inr (1, 0))), (1, .inl ((u : Int), (u : Int))), (2, .inl ((r : Int), (r : Int)))], [.inl (0, 0)], w, 0, 0)
          refine yreach.at (S' := (38, [(4, .inr (.inr (1, 25 + 2 * (6 + r)))), (3, .inr (.inr (1, o))), (0, .inr (.inr (1, 0))), (1, .inl ((u : Int), (u : Int))), (2, .inl ((r : Int), (r : Int)))], [], w, 0, 0)) (q := _) rfl (sx_if (o := true) (zcmp xceq_of (decide_eq_true (by omega)))) ?_
          refine yreach.at (S' := (39, [(4, .inr (.inr (1, 25 + 2 * (6 + r)))), (3, .inr (.inr (1, o))), (0, .inr (.inr (1, 0))), (1, .inl ((u : Int), (u : Int))), (2, .inl ((r : Int), (r : Int)))], [.inr (.inr (1, 0))], w, 0, 0)) (q := _) rfl rfl ?_
          refine yreach.at (S' := (42, [(4, .inr (.inr (1, 25 + 2 * (6 + r)))), (3, .inr (.inr (1, o))), (0, .inr (.inr (1, 0))), (1, .inl ((u : Int), (u : Int))), (2, .inl ((r : Int), (r : Int)))], [.inr (.inr (1, 14))], w, 0, 0)) (q := _) rfl (sx_get hw g6) ?_
          refine yreach.at (S' := (44, [(4, .inr (.inr (1, 25 + 2 * (6 + r)))), (3, .inr (.inr (1, o))), (0, .inr (.inr (1, 0))), (1, .inl ((u : Int), (u : Int))), (2, .inl ((r : Int), (r : Int)))], [.inr (.inr (1, 25 + 2 * (6 + r))), .inr (.inr (1, 14))], w, 0, 0)) (q := _) rfl rfl ?_
          refine ycall_at (N := xm104) (ro := some (.inl (P.1, P.1))) (w' := List.set (α := XC) w 15 (.inr (0, zarr P.2))) (recv := true) (i := .invokevirtual 337) (a := 104) (na := 2) (z := 0) rfl (fun _ => rfl) rfl mr ⟨Nat.le_of_ble_eq_true rfl, Nat.le_of_ble_eq_true rfl, Nat.le_of_ble_eq_true rfl, Nat.le_of_ble_eq_true rfl, Nat.le_of_ble_eq_true rfl, Nat.le_of_ble_eq_true rfl, (xrecv_at (as := [.inr (.inr (1, 25 + 2 * (6 + r)))]) hr)⟩ ?_
          show yreach (ySt sc xm108) (yJm l D tA ex sc xm108) (_) (47, [(4, .inr (.inr (1, 25 + 2 * (6 + r)))), (3, .inr (.inr (1, o))), (0, .inr (.inr (1, 0))), (1, .inl ((u : Int), (u : Int))), (2, .inl ((r : Int), (r : Int)))], [.inl (P.1, P.1)], List.set (α := XC) w 15 (.inr (0, zarr P.2)), 0, 0)
          refine yreach.at (S' := (49, [(4, .inr (.inr (1, 25 + 2 * (6 + r)))), (3, .inr (.inr (1, o))), (0, .inr (.inr (1, 0))), (1, .inl ((u : Int), (u : Int))), (2, .inl ((r : Int), (r : Int)))], [.inl (-9, -9), .inl (P.1, P.1)], List.set (α := XC) w 15 (.inr (0, zarr P.2)), 0, 0)) (q := _) rfl rfl ?_
          refine yreach.at (S' := (55, [(4, .inr (.inr (1, 25 + 2 * (6 + r)))), (3, .inr (.inr (1, o))), (0, .inr (.inr (1, 0))), (1, .inl ((u : Int), (u : Int))), (2, .inl ((r : Int), (r : Int)))], [], List.set (α := XC) w 15 (.inr (0, zarr P.2)), 0, 0)) (q := _) rfl (sx_icmp (o := true) (zcmp xceq_of (decide_eq_true (by omega)))) ?_
          refine yreach.at (S' := (56, [(4, .inr (.inr (1, 25 + 2 * (6 + r)))), (3, .inr (.inr (1, o))), (0, .inr (.inr (1, 0))), (1, .inl ((u : Int), (u : Int))), (2, .inl ((r : Int), (r : Int)))], [.inl (0, 0)], List.set (α := XC) w 15 (.inr (0, zarr P.2)), 0, 0)) (q := _) rfl rfl ?_
          refine yreach.at (S' := (58, [(5, .inl (0, 0)), (4, .inr (.inr (1, 25 + 2 * (6 + r)))), (3, .inr (.inr (1, o))), (0, .inr (.inr (1, 0))), (1, .inl ((u : Int), (u : Int))), (2, .inl ((r : Int), (r : Int)))], [], List.set (α := XC) w 15 (.inr (0, zarr P.2)), 0, 0)) (q := _) rfl rfl ?_
          refine yreach.at (S' := (59, [(5, .inl (0, 0)), (4, .inr (.inr (1, 25 + 2 * (6 + r)))), (3, .inr (.inr (1, o))), (0, .inr (.inr (1, 0))), (1, .inl ((u : Int), (u : Int))), (2, .inl ((r : Int), (r : Int)))], [.inl (0, 0)], List.set (α := XC) w 15 (.inr (0, zarr P.2)), 0, 0)) (q := _) rfl rfl ?_
          refine yreach.at (S' := (61, [(6, .inl (0, 0)), (5, .inl (0, 0)), (4, .inr (.inr (1, 25 + 2 * (6 + r)))), (3, .inr (.inr (1, o))), (0, .inr (.inr (1, 0))), (1, .inl ((u : Int), (u : Int))), (2, .inl ((r : Int), (r : Int)))], [], List.set (α := XC) w 15 (.inr (0, zarr P.2)), 0, 0)) (q := _) rfl rfl ?_
          have hh := zcr_loop (l := l) (D := D) (tA := tA) (ex := ex) (sc := sc) (w := List.set (α := XC) w 15 (.inr (0, zarr P.2))) (o := o) (a := x) (q := 25 + 2 * (6 + r)) (b := (u : Int)) (t := (r : Int)) (ru := ru) (it := P.2) hw' g6 hr' gr w15 o2' gb x1' xl hit (dx 0 0 (hU.2.1.at rfl) (by decide)) (dx 14 22 (hU.2.1.at rfl) (by decide)) (dx 15 23 (hU.2.1.at rfl) (by decide)) (dx o 14 ko (by decide)) 4 0 rfl
          rw [show zfl ru 0 (fun k => .inl ((P.2[k]?).getD 0, (P.2[k]?).getD 0)) 0 = ru from rfl, e0] at hh
          refine yreach.sub (lv' := [(6, .inl (0, 0)), (5, .inl (0, 0)), (4, .inr (.inr (1, 25 + 2 * (6 + r)))), (3, .inr (.inr (1, o))), (0, .inr (.inr (1, 0))), (1, .inl ((u : Int), (u : Int))), (2, .inl ((r : Int), (r : Int)))]) (by simp) ?_
          exact hh
        · rw [if_neg hF]
          refine ⟨_, zex (j := 108) rfl (Nat.le_of_ble_eq_true rfl) ?_, hU2⟩
          refine yreach.at (S' := (1, [(0, .inr (.inr (1, 0))), (1, .inl ((u : Int), (u : Int))), (2, .inl ((r : Int), (r : Int)))], [.inr (.inr (1, 0))], w, 0, 0)) (q := _) rfl rfl ?_
          refine yreach.at (S' := (2, [(0, .inr (.inr (1, 0))), (1, .inl ((u : Int), (u : Int))), (2, .inl ((r : Int), (r : Int)))], [.inl ((u : Int), (u : Int)), .inr (.inr (1, 0))], w, 0, 0)) (q := _) rfl rfl ?_
          refine ycall_at (N := xm38) (ro := some (.inr (.inr (1, o)))) (w' := w) (recv := true) (i := .invokevirtual 155) (a := 38) (na := 2) (z := 0) rfl (fun _ => rfl) rfl (zbt_in hw g3 h11 hu o1) ⟨Nat.le_of_ble_eq_true rfl, Nat.le_of_ble_eq_true rfl, Nat.le_of_ble_eq_true rfl, Nat.le_of_ble_eq_true rfl, Nat.le_of_ble_eq_true rfl, Nat.le_of_ble_eq_true rfl, (xrecv_at (as := [.inl ((u : Int), (u : Int))]) hw)⟩ ?_
          show yreach (ySt sc xm108) (yJm l D tA ex sc xm108) (_) (5, [(0, .inr (.inr (1, 0))), (1, .inl ((u : Int), (u : Int))), (2, .inl ((r : Int), (r : Int)))], [.inr (.inr (1, o))], w, 0, 0)
          refine yreach.at (S' := (6, [(3, .inr (.inr (1, o))), (0, .inr (.inr (1, 0))), (1, .inl ((u : Int), (u : Int))), (2, .inl ((r : Int), (r : Int)))], [], w, 0, 0)) (q := _) rfl rfl ?_
          refine yreach.at (S' := (7, [(3, .inr (.inr (1, o))), (0, .inr (.inr (1, 0))), (1, .inl ((u : Int), (u : Int))), (2, .inl ((r : Int), (r : Int)))], [.inr (.inr (1, 0))], w, 0, 0)) (q := _) rfl rfl ?_
          refine yreach.at (S' := (8, [(3, .inr (.inr (1, o))), (0, .inr (.inr (1, 0))), (1, .inl ((u : Int), (u : Int))), (2, .inl ((r : Int), (r : Int)))], [.inl ((r : Int), (r : Int)), .inr (.inr (1, 0))], w, 0, 0)) (q := _) rfl rfl ?_
          refine ycall_at (N := xm20) (ro := some (.inr (.inr (1, 25 + 2 * (6 + r))))) (w' := w) (recv := true) (i := .invokevirtual 113) (a := 20) (na := 2) (z := 0) rfl (fun _ => rfl) rfl (ztxt_in hU hr4) ⟨Nat.le_of_ble_eq_true rfl, Nat.le_of_ble_eq_true rfl, Nat.le_of_ble_eq_true rfl, Nat.le_of_ble_eq_true rfl, Nat.le_of_ble_eq_true rfl, Nat.le_of_ble_eq_true rfl, (xrecv_at (as := [.inl ((r : Int), (r : Int))]) hw)⟩ ?_
          show yreach (ySt sc xm108) (yJm l D tA ex sc xm108) (_) (11, [(3, .inr (.inr (1, o))), (0, .inr (.inr (1, 0))), (1, .inl ((u : Int), (u : Int))), (2, .inl ((r : Int), (r : Int)))], [.inr (.inr (1, 25 + 2 * (6 + r)))], w, 0, 0)
          refine yreach.at (S' := (13, [(4, .inr (.inr (1, 25 + 2 * (6 + r)))), (3, .inr (.inr (1, o))), (0, .inr (.inr (1, 0))), (1, .inl ((u : Int), (u : Int))), (2, .inl ((r : Int), (r : Int)))], [], w, 0, 0)) (q := _) rfl rfl ?_
          refine yreach.at (S' := (14, [(4, .inr (.inr (1, 25 + 2 * (6 + r)))), (3, .inr (.inr (1, o))), (0, .inr (.inr (1, 0))), (1, .inl ((u : Int), (u : Int))), (2, .inl ((r : Int), (r : Int)))], [.inr (.inr (1, o))], w, 0, 0)) (q := _) rfl rfl ?_
          refine yreach.at (S' := (17, [(4, .inr (.inr (1, 25 + 2 * (6 + r)))), (3, .inr (.inr (1, o))), (0, .inr (.inr (1, 0))), (1, .inl ((u : Int), (u : Int))), (2, .inl ((r : Int), (r : Int)))], [], w, 0, 0)) (q := _) rfl rfl ?_
          refine yreach.at (S' := (19, [(4, .inr (.inr (1, 25 + 2 * (6 + r)))), (3, .inr (.inr (1, o))), (0, .inr (.inr (1, 0))), (1, .inl ((u : Int), (u : Int))), (2, .inl ((r : Int), (r : Int)))], [.inr (.inr (1, 25 + 2 * (6 + r)))], w, 0, 0)) (q := _) rfl rfl ?_
          refine yreach.at (S' := (24, [(4, .inr (.inr (1, 25 + 2 * (6 + r)))), (3, .inr (.inr (1, o))), (0, .inr (.inr (1, 0))), (1, .inl ((u : Int), (u : Int))), (2, .inl ((r : Int), (r : Int)))], [], w, 0, 0)) (q := _) rfl rfl ?_
          refine yreach.at (S' := (26, [(4, .inr (.inr (1, 25 + 2 * (6 + r)))), (3, .inr (.inr (1, o))), (0, .inr (.inr (1, 0))), (1, .inl ((u : Int), (u : Int))), (2, .inl ((r : Int), (r : Int)))], [.inr (.inr (1, 25 + 2 * (6 + r)))], w, 0, 0)) (q := _) rfl rfl ?_
          refine ycall_at (N := xm13) (ro := some (.inl (0, 0))) (w' := w) (recv := true) (i := .invokevirtual 90) (a := 13) (na := 1) (z := 0) rfl (fun _ => rfl) rfl (zmis_n c1 (by omega)) ⟨Nat.le_of_ble_eq_true rfl, Nat.le_of_ble_eq_true rfl, Nat.le_of_ble_eq_true rfl, Nat.le_of_ble_eq_true rfl, Nat.le_of_ble_eq_true rfl, Nat.le_of_ble_eq_true rfl, (xrecv_at (as := []) c1)⟩ ?_
          show yreach (ySt sc xm108) (yJm l D tA ex sc xm108) (_) (29, [(4, .inr (.inr (1, 25 + 2 * (6 + r)))), (3, .inr (.inr (1, o))), (0, .inr (.inr (1, 0))), (1, .inl ((u : Int), (u : Int))), (2, .inl ((r : Int), (r : Int)))], [.inl (0, 0)], w, 0, 0)
          refine yreach.at (S' := (38, [(4, .inr (.inr (1, 25 + 2 * (6 + r)))), (3, .inr (.inr (1, o))), (0, .inr (.inr (1, 0))), (1, .inl ((u : Int), (u : Int))), (2, .inl ((r : Int), (r : Int)))], [], w, 0, 0)) (q := _) rfl (sx_if (o := true) (zcmp xceq_of (decide_eq_true (by omega)))) ?_
          refine yreach.at (S' := (39, [(4, .inr (.inr (1, 25 + 2 * (6 + r)))), (3, .inr (.inr (1, o))), (0, .inr (.inr (1, 0))), (1, .inl ((u : Int), (u : Int))), (2, .inl ((r : Int), (r : Int)))], [.inr (.inr (1, 0))], w, 0, 0)) (q := _) rfl rfl ?_
          refine yreach.at (S' := (42, [(4, .inr (.inr (1, 25 + 2 * (6 + r)))), (3, .inr (.inr (1, o))), (0, .inr (.inr (1, 0))), (1, .inl ((u : Int), (u : Int))), (2, .inl ((r : Int), (r : Int)))], [.inr (.inr (1, 14))], w, 0, 0)) (q := _) rfl (sx_get hw g6) ?_
          refine yreach.at (S' := (44, [(4, .inr (.inr (1, 25 + 2 * (6 + r)))), (3, .inr (.inr (1, o))), (0, .inr (.inr (1, 0))), (1, .inl ((u : Int), (u : Int))), (2, .inl ((r : Int), (r : Int)))], [.inr (.inr (1, 25 + 2 * (6 + r))), .inr (.inr (1, 14))], w, 0, 0)) (q := _) rfl rfl ?_
          refine ycall_at (N := xm104) (ro := some (.inl (P.1, P.1))) (w' := List.set (α := XC) w 15 (.inr (0, zarr P.2))) (recv := true) (i := .invokevirtual 337) (a := 104) (na := 2) (z := 0) rfl (fun _ => rfl) rfl mr ⟨Nat.le_of_ble_eq_true rfl, Nat.le_of_ble_eq_true rfl, Nat.le_of_ble_eq_true rfl, Nat.le_of_ble_eq_true rfl, Nat.le_of_ble_eq_true rfl, Nat.le_of_ble_eq_true rfl, (xrecv_at (as := [.inr (.inr (1, 25 + 2 * (6 + r)))]) hr)⟩ ?_
          show yreach (ySt sc xm108) (yJm l D tA ex sc xm108) (_) (47, [(4, .inr (.inr (1, 25 + 2 * (6 + r)))), (3, .inr (.inr (1, o))), (0, .inr (.inr (1, 0))), (1, .inl ((u : Int), (u : Int))), (2, .inl ((r : Int), (r : Int)))], [.inl (P.1, P.1)], List.set (α := XC) w 15 (.inr (0, zarr P.2)), 0, 0)
          refine yreach.at (S' := (49, [(4, .inr (.inr (1, 25 + 2 * (6 + r)))), (3, .inr (.inr (1, o))), (0, .inr (.inr (1, 0))), (1, .inl ((u : Int), (u : Int))), (2, .inl ((r : Int), (r : Int)))], [.inl (-9, -9), .inl (P.1, P.1)], List.set (α := XC) w 15 (.inr (0, zarr P.2)), 0, 0)) (q := _) rfl rfl ?_
          refine yreach.at (S' := (52, [(4, .inr (.inr (1, 25 + 2 * (6 + r)))), (3, .inr (.inr (1, o))), (0, .inr (.inr (1, 0))), (1, .inl ((u : Int), (u : Int))), (2, .inl ((r : Int), (r : Int)))], [], List.set (α := XC) w 15 (.inr (0, zarr P.2)), 0, 0)) (q := _) rfl (sx_icmp (o := false) (zcmp xceq_of (decide_eq_false (by omega)))) ?_
          refine yreach.at (S' := (54, [(4, .inr (.inr (1, 25 + 2 * (6 + r)))), (3, .inr (.inr (1, o))), (0, .inr (.inr (1, 0))), (1, .inl ((u : Int), (u : Int))), (2, .inl ((r : Int), (r : Int)))], [.inl (-4, -4)], List.set (α := XC) w 15 (.inr (0, zarr P.2)), 0, 0)) (q := _) rfl rfl ?_
          exact yreach.ret (q := (some (.inl (-4, -4)), List.set (α := XC) w 15 (.inr (0, zarr P.2)), 0, 0)) ((xstep_at rfl).trans rfl) rfl
    · have n1 : (u : Int) < 0 ∨ 6 ≤ (u : Int) ∨ a < 0 ∨ 4 ≤ a := by omega
      rw [show zRuA S (u : Int) a = -1 from if_pos n1]
      refine ⟨w, zex (j := 108) rfl (Nat.le_of_ble_eq_true rfl) ?_, hU⟩
      refine yreach.at (S' := (1, [(0, .inr (.inr (1, 0))), (1, .inl ((u : Int), (u : Int))), (2, .inl (a, a))], [.inr (.inr (1, 0))], w, 0, 0)) (q := _) rfl rfl ?_
      refine yreach.at (S' := (2, [(0, .inr (.inr (1, 0))), (1, .inl ((u : Int), (u : Int))), (2, .inl (a, a))], [.inl ((u : Int), (u : Int)), .inr (.inr (1, 0))], w, 0, 0)) (q := _) rfl rfl ?_
      refine ycall_at (N := xm38) (ro := some (.inr (.inr (1, o)))) (w' := w) (recv := true) (i := .invokevirtual 155) (a := 38) (na := 2) (z := 0) rfl (fun _ => rfl) rfl (zbt_in hw g3 h11 hu o1) ⟨Nat.le_of_ble_eq_true rfl, Nat.le_of_ble_eq_true rfl, Nat.le_of_ble_eq_true rfl, Nat.le_of_ble_eq_true rfl, Nat.le_of_ble_eq_true rfl, Nat.le_of_ble_eq_true rfl, (xrecv_at (as := [.inl ((u : Int), (u : Int))]) hw)⟩ ?_
      show yreach (ySt sc xm108) (yJm l D tA ex sc xm108) (_) (5, [(0, .inr (.inr (1, 0))), (1, .inl ((u : Int), (u : Int))), (2, .inl (a, a))], [.inr (.inr (1, o))], w, 0, 0)
      refine yreach.at (S' := (6, [(3, .inr (.inr (1, o))), (0, .inr (.inr (1, 0))), (1, .inl ((u : Int), (u : Int))), (2, .inl (a, a))], [], w, 0, 0)) (q := _) rfl rfl ?_
      refine yreach.at (S' := (7, [(3, .inr (.inr (1, o))), (0, .inr (.inr (1, 0))), (1, .inl ((u : Int), (u : Int))), (2, .inl (a, a))], [.inr (.inr (1, 0))], w, 0, 0)) (q := _) rfl rfl ?_
      refine yreach.at (S' := (8, [(3, .inr (.inr (1, o))), (0, .inr (.inr (1, 0))), (1, .inl ((u : Int), (u : Int))), (2, .inl (a, a))], [.inl (a, a), .inr (.inr (1, 0))], w, 0, 0)) (q := _) rfl rfl ?_
      refine ycall_at (N := xm20) (ro := some (.inr (.inr (0, 0)))) (w' := w) (recv := true) (i := .invokevirtual 113) (a := 20) (na := 2) (z := 0) rfl (fun _ => rfl) rfl (ztxt_no hU ha) ⟨Nat.le_of_ble_eq_true rfl, Nat.le_of_ble_eq_true rfl, Nat.le_of_ble_eq_true rfl, Nat.le_of_ble_eq_true rfl, Nat.le_of_ble_eq_true rfl, Nat.le_of_ble_eq_true rfl, (xrecv_at (as := [.inl (a, a)]) hw)⟩ ?_
      show yreach (ySt sc xm108) (yJm l D tA ex sc xm108) (_) (11, [(3, .inr (.inr (1, o))), (0, .inr (.inr (1, 0))), (1, .inl ((u : Int), (u : Int))), (2, .inl (a, a))], [.inr (.inr (0, 0))], w, 0, 0)
      refine yreach.at (S' := (13, [(4, .inr (.inr (0, 0))), (3, .inr (.inr (1, o))), (0, .inr (.inr (1, 0))), (1, .inl ((u : Int), (u : Int))), (2, .inl (a, a))], [], w, 0, 0)) (q := _) rfl rfl ?_
      refine yreach.at (S' := (14, [(4, .inr (.inr (0, 0))), (3, .inr (.inr (1, o))), (0, .inr (.inr (1, 0))), (1, .inl ((u : Int), (u : Int))), (2, .inl (a, a))], [.inr (.inr (1, o))], w, 0, 0)) (q := _) rfl rfl ?_
      refine yreach.at (S' := (17, [(4, .inr (.inr (0, 0))), (3, .inr (.inr (1, o))), (0, .inr (.inr (1, 0))), (1, .inl ((u : Int), (u : Int))), (2, .inl (a, a))], [], w, 0, 0)) (q := _) rfl rfl ?_
      refine yreach.at (S' := (19, [(4, .inr (.inr (0, 0))), (3, .inr (.inr (1, o))), (0, .inr (.inr (1, 0))), (1, .inl ((u : Int), (u : Int))), (2, .inl (a, a))], [.inr (.inr (0, 0))], w, 0, 0)) (q := _) rfl rfl ?_
      refine yreach.at (S' := (22, [(4, .inr (.inr (0, 0))), (3, .inr (.inr (1, o))), (0, .inr (.inr (1, 0))), (1, .inl ((u : Int), (u : Int))), (2, .inl (a, a))], [], w, 0, 0)) (q := _) rfl rfl ?_
      refine yreach.at (S' := (23, [(4, .inr (.inr (0, 0))), (3, .inr (.inr (1, o))), (0, .inr (.inr (1, 0))), (1, .inl ((u : Int), (u : Int))), (2, .inl (a, a))], [.inl (-1, -1)], w, 0, 0)) (q := _) rfl rfl ?_
      exact yreach.ret (q := (some (.inl (-1, -1)), w, 0, 0)) ((xstep_at rfl).trans rfl) rfl
  · have n1 : b < 0 ∨ 6 ≤ b ∨ a < 0 ∨ 4 ≤ a := by omega
    rw [show zRuA S b a = -1 from if_pos n1]
    by_cases ha : 0 ≤ a ∧ a < 4
    · obtain ⟨r, rfl⟩ : ∃ r : Nat, a = (r : Int) := ⟨a.toNat, by omega⟩
      have hr4 : r < 4 := by omega
      refine ⟨w, zex (j := 108) rfl (Nat.le_of_ble_eq_true rfl) ?_, hU⟩
      refine yreach.at (S' := (1, [(0, .inr (.inr (1, 0))), (1, .inl (b, b)), (2, .inl ((r : Int), (r : Int)))], [.inr (.inr (1, 0))], w, 0, 0)) (q := _) rfl rfl ?_
      refine yreach.at (S' := (2, [(0, .inr (.inr (1, 0))), (1, .inl (b, b)), (2, .inl ((r : Int), (r : Int)))], [.inl (b, b), .inr (.inr (1, 0))], w, 0, 0)) (q := _) rfl rfl ?_
      refine ycall_at (N := xm38) (ro := some (.inr (.inr (0, 0)))) (w' := w) (recv := true) (i := .invokevirtual 155) (a := 38) (na := 2) (z := 0) rfl (fun _ => rfl) rfl (zbt_no hb) ⟨Nat.le_of_ble_eq_true rfl, Nat.le_of_ble_eq_true rfl, Nat.le_of_ble_eq_true rfl, Nat.le_of_ble_eq_true rfl, Nat.le_of_ble_eq_true rfl, Nat.le_of_ble_eq_true rfl, (xrecv_at (as := [.inl (b, b)]) hw)⟩ ?_
      show yreach (ySt sc xm108) (yJm l D tA ex sc xm108) (_) (5, [(0, .inr (.inr (1, 0))), (1, .inl (b, b)), (2, .inl ((r : Int), (r : Int)))], [.inr (.inr (0, 0))], w, 0, 0)
      refine yreach.at (S' := (6, [(3, .inr (.inr (0, 0))), (0, .inr (.inr (1, 0))), (1, .inl (b, b)), (2, .inl ((r : Int), (r : Int)))], [], w, 0, 0)) (q := _) rfl rfl ?_
      refine yreach.at (S' := (7, [(3, .inr (.inr (0, 0))), (0, .inr (.inr (1, 0))), (1, .inl (b, b)), (2, .inl ((r : Int), (r : Int)))], [.inr (.inr (1, 0))], w, 0, 0)) (q := _) rfl rfl ?_
      refine yreach.at (S' := (8, [(3, .inr (.inr (0, 0))), (0, .inr (.inr (1, 0))), (1, .inl (b, b)), (2, .inl ((r : Int), (r : Int)))], [.inl ((r : Int), (r : Int)), .inr (.inr (1, 0))], w, 0, 0)) (q := _) rfl rfl ?_
      refine ycall_at (N := xm20) (ro := some (.inr (.inr (1, 25 + 2 * (6 + r))))) (w' := w) (recv := true) (i := .invokevirtual 113) (a := 20) (na := 2) (z := 0) rfl (fun _ => rfl) rfl (ztxt_in hU hr4) ⟨Nat.le_of_ble_eq_true rfl, Nat.le_of_ble_eq_true rfl, Nat.le_of_ble_eq_true rfl, Nat.le_of_ble_eq_true rfl, Nat.le_of_ble_eq_true rfl, Nat.le_of_ble_eq_true rfl, (xrecv_at (as := [.inl ((r : Int), (r : Int))]) hw)⟩ ?_
      show yreach (ySt sc xm108) (yJm l D tA ex sc xm108) (_) (11, [(3, .inr (.inr (0, 0))), (0, .inr (.inr (1, 0))), (1, .inl (b, b)), (2, .inl ((r : Int), (r : Int)))], [.inr (.inr (1, 25 + 2 * (6 + r)))], w, 0, 0)
      refine yreach.at (S' := (13, [(4, .inr (.inr (1, 25 + 2 * (6 + r)))), (3, .inr (.inr (0, 0))), (0, .inr (.inr (1, 0))), (1, .inl (b, b)), (2, .inl ((r : Int), (r : Int)))], [], w, 0, 0)) (q := _) rfl rfl ?_
      refine yreach.at (S' := (14, [(4, .inr (.inr (1, 25 + 2 * (6 + r)))), (3, .inr (.inr (0, 0))), (0, .inr (.inr (1, 0))), (1, .inl (b, b)), (2, .inl ((r : Int), (r : Int)))], [.inr (.inr (0, 0))], w, 0, 0)) (q := _) rfl rfl ?_
      refine yreach.at (S' := (22, [(4, .inr (.inr (1, 25 + 2 * (6 + r)))), (3, .inr (.inr (0, 0))), (0, .inr (.inr (1, 0))), (1, .inl (b, b)), (2, .inl ((r : Int), (r : Int)))], [], w, 0, 0)) (q := _) rfl rfl ?_
      refine yreach.at (S' := (23, [(4, .inr (.inr (1, 25 + 2 * (6 + r)))), (3, .inr (.inr (0, 0))), (0, .inr (.inr (1, 0))), (1, .inl (b, b)), (2, .inl ((r : Int), (r : Int)))], [.inl (-1, -1)], w, 0, 0)) (q := _) rfl rfl ?_
      exact yreach.ret (q := (some (.inl (-1, -1)), w, 0, 0)) ((xstep_at rfl).trans rfl) rfl
    · refine ⟨w, zex (j := 108) rfl (Nat.le_of_ble_eq_true rfl) ?_, hU⟩
      refine yreach.at (S' := (1, [(0, .inr (.inr (1, 0))), (1, .inl (b, b)), (2, .inl (a, a))], [.inr (.inr (1, 0))], w, 0, 0)) (q := _) rfl rfl ?_
      refine yreach.at (S' := (2, [(0, .inr (.inr (1, 0))), (1, .inl (b, b)), (2, .inl (a, a))], [.inl (b, b), .inr (.inr (1, 0))], w, 0, 0)) (q := _) rfl rfl ?_
      refine ycall_at (N := xm38) (ro := some (.inr (.inr (0, 0)))) (w' := w) (recv := true) (i := .invokevirtual 155) (a := 38) (na := 2) (z := 0) rfl (fun _ => rfl) rfl (zbt_no hb) ⟨Nat.le_of_ble_eq_true rfl, Nat.le_of_ble_eq_true rfl, Nat.le_of_ble_eq_true rfl, Nat.le_of_ble_eq_true rfl, Nat.le_of_ble_eq_true rfl, Nat.le_of_ble_eq_true rfl, (xrecv_at (as := [.inl (b, b)]) hw)⟩ ?_
      show yreach (ySt sc xm108) (yJm l D tA ex sc xm108) (_) (5, [(0, .inr (.inr (1, 0))), (1, .inl (b, b)), (2, .inl (a, a))], [.inr (.inr (0, 0))], w, 0, 0)
      refine yreach.at (S' := (6, [(3, .inr (.inr (0, 0))), (0, .inr (.inr (1, 0))), (1, .inl (b, b)), (2, .inl (a, a))], [], w, 0, 0)) (q := _) rfl rfl ?_
      refine yreach.at (S' := (7, [(3, .inr (.inr (0, 0))), (0, .inr (.inr (1, 0))), (1, .inl (b, b)), (2, .inl (a, a))], [.inr (.inr (1, 0))], w, 0, 0)) (q := _) rfl rfl ?_
      refine yreach.at (S' := (8, [(3, .inr (.inr (0, 0))), (0, .inr (.inr (1, 0))), (1, .inl (b, b)), (2, .inl (a, a))], [.inl (a, a), .inr (.inr (1, 0))], w, 0, 0)) (q := _) rfl rfl ?_
      refine ycall_at (N := xm20) (ro := some (.inr (.inr (0, 0)))) (w' := w) (recv := true) (i := .invokevirtual 113) (a := 20) (na := 2) (z := 0) rfl (fun _ => rfl) rfl (ztxt_no hU ha) ⟨Nat.le_of_ble_eq_true rfl, Nat.le_of_ble_eq_true rfl, Nat.le_of_ble_eq_true rfl, Nat.le_of_ble_eq_true rfl, Nat.le_of_ble_eq_true rfl, Nat.le_of_ble_eq_true rfl, (xrecv_at (as := [.inl (a, a)]) hw)⟩ ?_
      show yreach (ySt sc xm108) (yJm l D tA ex sc xm108) (_) (11, [(3, .inr (.inr (0, 0))), (0, .inr (.inr (1, 0))), (1, .inl (b, b)), (2, .inl (a, a))], [.inr (.inr (0, 0))], w, 0, 0)
      refine yreach.at (S' := (13, [(4, .inr (.inr (0, 0))), (3, .inr (.inr (0, 0))), (0, .inr (.inr (1, 0))), (1, .inl (b, b)), (2, .inl (a, a))], [], w, 0, 0)) (q := _) rfl rfl ?_
      refine yreach.at (S' := (14, [(4, .inr (.inr (0, 0))), (3, .inr (.inr (0, 0))), (0, .inr (.inr (1, 0))), (1, .inl (b, b)), (2, .inl (a, a))], [.inr (.inr (0, 0))], w, 0, 0)) (q := _) rfl rfl ?_
      refine yreach.at (S' := (22, [(4, .inr (.inr (0, 0))), (3, .inr (.inr (0, 0))), (0, .inr (.inr (1, 0))), (1, .inl (b, b)), (2, .inl (a, a))], [], w, 0, 0)) (q := _) rfl rfl ?_
      refine yreach.at (S' := (23, [(4, .inr (.inr (0, 0))), (3, .inr (.inr (0, 0))), (0, .inr (.inr (1, 0))), (1, .inl (b, b)), (2, .inl (a, a))], [.inl (-1, -1)], w, 0, 0)) (q := _) rfl rfl ?_
      exact yreach.ret (q := (some (.inl (-1, -1)), w, 0, 0)) ((xstep_at rfl).trans rfl) rfl
theorem zmr_loop {w : XW} {u : Nat} {t : Int} {fs ru : List XV} {it : List Int} (hu : u < 6) (hw : w[57]? = some (.inl (10, fs))) (g44 : fs[44]? = some (.inr (.inr (1, 92)))) (g45 : fs[45]? = some (.inr (.inr (1, 93)))) (h93 : w[93]? = some (.inr (0, zarr it))) (h92 : w[92]? = some (.inr (0, ru))) (hl : ru.length = 24) (hit : zIt it) : ∀ m k : Nat, k + m = 4 → yreach (ySt sc xm228) (yJm l D tA ex sc xm228) (fun r => r = (some (.inl (zCn it 4, zCn it 4)), List.set (α := XC) w 92 (.inr (0, zfl ru (4 * u) (fun k => .inl ((it[k]?).getD 0, (it[k]?).getD 0)) 4)), 0, 0)) (49, [(4, .inl (((k : Nat) : Int), ((k : Nat) : Int))), (3, .inl (zCn it k, zCn it k)), (0, .inr (.inr (1, 57))), (1, .inl (((u : Nat) : Int), ((u : Nat) : Int))), (2, .inl (t, t))], [], List.set (α := XC) w 92 (.inr (0, zfl ru (4 * u) (fun k => .inl ((it[k]?).getD 0, (it[k]?).getD 0)) k)), 0, 0)
  | 0, k, e => by
    have e : k = 4 := e
    subst e
    refine yreach.at (S' := (51, [(4, .inl (((4 : Nat) : Int), ((4 : Nat) : Int))), (3, .inl (zCn it 4, zCn it 4)), (0, .inr (.inr (1, 57))), (1, .inl (((u : Nat) : Int), ((u : Nat) : Int))), (2, .inl (t, t))], [.inl (((4 : Nat) : Int), ((4 : Nat) : Int))], List.set (α := XC) w 92 (.inr (0, zfl ru (4 * u) (fun k => .inl ((it[k]?).getD 0, (it[k]?).getD 0)) 4)), 0, 0)) (q := _) rfl rfl ?_
    refine yreach.at (S' := (52, [(4, .inl (((4 : Nat) : Int), ((4 : Nat) : Int))), (3, .inl (zCn it 4, zCn it 4)), (0, .inr (.inr (1, 57))), (1, .inl (((u : Nat) : Int), ((u : Nat) : Int))), (2, .inl (t, t))], [.inl (4, 4), .inl (((4 : Nat) : Int), ((4 : Nat) : Int))], List.set (α := XC) w 92 (.inr (0, zfl ru (4 * u) (fun k => .inl ((it[k]?).getD 0, (it[k]?).getD 0)) 4)), 0, 0)) (q := _) rfl rfl ?_
    refine yreach.at (S' := (97, [(4, .inl (((4 : Nat) : Int), ((4 : Nat) : Int))), (3, .inl (zCn it 4, zCn it 4)), (0, .inr (.inr (1, 57))), (1, .inl (((u : Nat) : Int), ((u : Nat) : Int))), (2, .inl (t, t))], [], List.set (α := XC) w 92 (.inr (0, zfl ru (4 * u) (fun k => .inl ((it[k]?).getD 0, (it[k]?).getD 0)) 4)), 0, 0)) (q := _) rfl (sx_icmp (o := true) (zcmp xge_of (decide_eq_true (by omega)))) ?_
    refine yreach.at (S' := (98, [(4, .inl (((4 : Nat) : Int), ((4 : Nat) : Int))), (3, .inl (zCn it 4, zCn it 4)), (0, .inr (.inr (1, 57))), (1, .inl (((u : Nat) : Int), ((u : Nat) : Int))), (2, .inl (t, t))], [.inl (zCn it 4, zCn it 4)], List.set (α := XC) w 92 (.inr (0, zfl ru (4 * u) (fun k => .inl ((it[k]?).getD 0, (it[k]?).getD 0)) 4)), 0, 0)) (q := _) rfl rfl ?_
    exact yreach.ret (q := (some (.inl (zCn it 4, zCn it 4)), List.set (α := XC) w 92 (.inr (0, zfl ru (4 * u) (fun k => .inl ((it[k]?).getD 0, (it[k]?).getD 0)) 4)), 0, 0)) ((xstep_at rfl).trans rfl) rfl
  | m + 1, k, e => by
    obtain ⟨x, x1, x2, x3⟩ := zIt_at hit (k := k) (by omega)
    obtain ⟨c1, c2⟩ := zCn_b (it := it) (k := k)
    have ih := zmr_loop (t := t) hu hw g44 g45 h93 h92 hl hit m (k + 1) (by omega)
    have e1 : zfl ru (4 * u) (fun k => .inl ((it[k]?).getD 0, (it[k]?).getD 0)) (k + 1) = (zfl ru (4 * u) (fun k => .inl ((it[k]?).getD 0, (it[k]?).getD 0)) k).set (4 * u + k) (.inl (x, x)) := by
      show (zfl ru (4 * u) (fun k => .inl ((it[k]?).getD 0, (it[k]?).getD 0)) k).set (4 * u + k) (.inl ((it[k]?).getD 0, (it[k]?).getD 0)) = _
      rw [x2]
    have e2 : zCn it (k + 1) = zCn it k + (if x = -9 then 0 else 1) := by
      show zCn it k + (if (it[k]?).getD 0 = -9 then 0 else 1) = _
      rw [x2]
    rw [e1, e2] at ih
    have al := (List.getElem?_eq_some_iff.mp h92).1
    have hw' : (List.set (α := XC) w 92 (.inr (0, zfl ru (4 * u) (fun k => .inl ((it[k]?).getD 0, (it[k]?).getD 0)) k)))[57]? = some (.inl (10, fs)) := by
      rw [List.getElem?_set_ne (by decide)]
      exact hw
    have h93' : (List.set (α := XC) w 92 (.inr (0, zfl ru (4 * u) (fun k => .inl ((it[k]?).getD 0, (it[k]?).getD 0)) k)))[93]? = some (.inr (0, zarr it)) := by
      rw [List.getElem?_set_ne (by decide)]
      exact h93
    have hw2 : (List.set (α := XC) w 92 (.inr (0, (zfl ru (4 * u) (fun k => .inl ((it[k]?).getD 0, (it[k]?).getD 0)) k).set (4 * u + k) (.inl (x, x)))))[57]? = some (.inl (10, fs)) := by
      rw [List.getElem?_set_ne (by decide)]
      exact hw
    have h932 : (List.set (α := XC) w 92 (.inr (0, (zfl ru (4 * u) (fun k => .inl ((it[k]?).getD 0, (it[k]?).getD 0)) k).set (4 * u + k) (.inl (x, x)))))[93]? = some (.inr (0, zarr it)) := by
      rw [List.getElem?_set_ne (by decide)]
      exact h93
    have hkl : 4 * u + k < (zfl ru (4 * u) (fun k => .inl ((it[k]?).getD 0, (it[k]?).getD 0)) k).length := by
      rw [zfl_len, hl]
      omega
    refine yreach.at (S' := (51, [(4, .inl (((k : Nat) : Int), ((k : Nat) : Int))), (3, .inl (zCn it k, zCn it k)), (0, .inr (.inr (1, 57))), (1, .inl (((u : Nat) : Int), ((u : Nat) : Int))), (2, .inl (t, t))], [.inl (((k : Nat) : Int), ((k : Nat) : Int))], List.set (α := XC) w 92 (.inr (0, zfl ru (4 * u) (fun k => .inl ((it[k]?).getD 0, (it[k]?).getD 0)) k)), 0, 0)) (q := _) rfl rfl ?_
    refine yreach.at (S' := (52, [(4, .inl (((k : Nat) : Int), ((k : Nat) : Int))), (3, .inl (zCn it k, zCn it k)), (0, .inr (.inr (1, 57))), (1, .inl (((u : Nat) : Int), ((u : Nat) : Int))), (2, .inl (t, t))], [.inl (4, 4), .inl (((k : Nat) : Int), ((k : Nat) : Int))], List.set (α := XC) w 92 (.inr (0, zfl ru (4 * u) (fun k => .inl ((it[k]?).getD 0, (it[k]?).getD 0)) k)), 0, 0)) (q := _) rfl rfl ?_
    refine yreach.at (S' := (55, [(4, .inl (((k : Nat) : Int), ((k : Nat) : Int))), (3, .inl (zCn it k, zCn it k)), (0, .inr (.inr (1, 57))), (1, .inl (((u : Nat) : Int), ((u : Nat) : Int))), (2, .inl (t, t))], [], List.set (α := XC) w 92 (.inr (0, zfl ru (4 * u) (fun k => .inl ((it[k]?).getD 0, (it[k]?).getD 0)) k)), 0, 0)) (q := _) rfl (sx_icmp (o := false) (zcmp xge_of (decide_eq_false (by omega)))) ?_
    refine yreach.at (S' := (56, [(4, .inl (((k : Nat) : Int), ((k : Nat) : Int))), (3, .inl (zCn it k, zCn it k)), (0, .inr (.inr (1, 57))), (1, .inl (((u : Nat) : Int), ((u : Nat) : Int))), (2, .inl (t, t))], [.inr (.inr (1, 57))], List.set (α := XC) w 92 (.inr (0, zfl ru (4 * u) (fun k => .inl ((it[k]?).getD 0, (it[k]?).getD 0)) k)), 0, 0)) (q := _) rfl rfl ?_
    refine yreach.at (S' := (59, [(4, .inl (((k : Nat) : Int), ((k : Nat) : Int))), (3, .inl (zCn it k, zCn it k)), (0, .inr (.inr (1, 57))), (1, .inl (((u : Nat) : Int), ((u : Nat) : Int))), (2, .inl (t, t))], [.inr (.inr (1, 92))], List.set (α := XC) w 92 (.inr (0, zfl ru (4 * u) (fun k => .inl ((it[k]?).getD 0, (it[k]?).getD 0)) k)), 0, 0)) (q := _) rfl (sx_get hw' g44) ?_
    refine yreach.at (S' := (60, [(4, .inl (((k : Nat) : Int), ((k : Nat) : Int))), (3, .inl (zCn it k, zCn it k)), (0, .inr (.inr (1, 57))), (1, .inl (((u : Nat) : Int), ((u : Nat) : Int))), (2, .inl (t, t))], [.inl (4, 4), .inr (.inr (1, 92))], List.set (α := XC) w 92 (.inr (0, zfl ru (4 * u) (fun k => .inl ((it[k]?).getD 0, (it[k]?).getD 0)) k)), 0, 0)) (q := _) rfl rfl ?_
    refine yreach.at (S' := (61, [(4, .inl (((k : Nat) : Int), ((k : Nat) : Int))), (3, .inl (zCn it k, zCn it k)), (0, .inr (.inr (1, 57))), (1, .inl (((u : Nat) : Int), ((u : Nat) : Int))), (2, .inl (t, t))], [.inl (((u : Nat) : Int), ((u : Nat) : Int)), .inl (4, 4), .inr (.inr (1, 92))], List.set (α := XC) w 92 (.inr (0, zfl ru (4 * u) (fun k => .inl ((it[k]?).getD 0, (it[k]?).getD 0)) k)), 0, 0)) (q := _) rfl rfl ?_
    refine yreach.at (S' := (62, [(4, .inl (((k : Nat) : Int), ((k : Nat) : Int))), (3, .inl (zCn it k, zCn it k)), (0, .inr (.inr (1, 57))), (1, .inl (((u : Nat) : Int), ((u : Nat) : Int))), (2, .inl (t, t))], [.inl (((4 * u : Nat) : Int), ((4 * u : Nat) : Int)), .inr (.inr (1, 92))], List.set (α := XC) w 92 (.inr (0, zfl ru (4 * u) (fun k => .inl ((it[k]?).getD 0, (it[k]?).getD 0)) k)), 0, 0)) (q := _) rfl (sx_bin rfl (zmul (by omega) ⟨by decide, by decide⟩ ⟨by omega, by omega⟩ ⟨by omega, by omega⟩)) ?_
    refine yreach.at (S' := (64, [(4, .inl (((k : Nat) : Int), ((k : Nat) : Int))), (3, .inl (zCn it k, zCn it k)), (0, .inr (.inr (1, 57))), (1, .inl (((u : Nat) : Int), ((u : Nat) : Int))), (2, .inl (t, t))], [.inl (((k : Nat) : Int), ((k : Nat) : Int)), .inl (((4 * u : Nat) : Int), ((4 * u : Nat) : Int)), .inr (.inr (1, 92))], List.set (α := XC) w 92 (.inr (0, zfl ru (4 * u) (fun k => .inl ((it[k]?).getD 0, (it[k]?).getD 0)) k)), 0, 0)) (q := _) rfl rfl ?_
    refine yreach.at (S' := (65, [(4, .inl (((k : Nat) : Int), ((k : Nat) : Int))), (3, .inl (zCn it k, zCn it k)), (0, .inr (.inr (1, 57))), (1, .inl (((u : Nat) : Int), ((u : Nat) : Int))), (2, .inl (t, t))], [.inl (((4 * u + k : Nat) : Int), ((4 * u + k : Nat) : Int)), .inr (.inr (1, 92))], List.set (α := XC) w 92 (.inr (0, zfl ru (4 * u) (fun k => .inl ((it[k]?).getD 0, (it[k]?).getD 0)) k)), 0, 0)) (q := _) rfl (sx_bin rfl (zadd (by omega) (by omega))) ?_
    refine yreach.at (S' := (66, [(4, .inl (((k : Nat) : Int), ((k : Nat) : Int))), (3, .inl (zCn it k, zCn it k)), (0, .inr (.inr (1, 57))), (1, .inl (((u : Nat) : Int), ((u : Nat) : Int))), (2, .inl (t, t))], [.inr (.inr (1, 57)), .inl (((4 * u + k : Nat) : Int), ((4 * u + k : Nat) : Int)), .inr (.inr (1, 92))], List.set (α := XC) w 92 (.inr (0, zfl ru (4 * u) (fun k => .inl ((it[k]?).getD 0, (it[k]?).getD 0)) k)), 0, 0)) (q := _) rfl rfl ?_
    refine yreach.at (S' := (69, [(4, .inl (((k : Nat) : Int), ((k : Nat) : Int))), (3, .inl (zCn it k, zCn it k)), (0, .inr (.inr (1, 57))), (1, .inl (((u : Nat) : Int), ((u : Nat) : Int))), (2, .inl (t, t))], [.inr (.inr (1, 93)), .inl (((4 * u + k : Nat) : Int), ((4 * u + k : Nat) : Int)), .inr (.inr (1, 92))], List.set (α := XC) w 92 (.inr (0, zfl ru (4 * u) (fun k => .inl ((it[k]?).getD 0, (it[k]?).getD 0)) k)), 0, 0)) (q := _) rfl (sx_get hw' g45) ?_
    refine yreach.at (S' := (71, [(4, .inl (((k : Nat) : Int), ((k : Nat) : Int))), (3, .inl (zCn it k, zCn it k)), (0, .inr (.inr (1, 57))), (1, .inl (((u : Nat) : Int), ((u : Nat) : Int))), (2, .inl (t, t))], [.inl (((k : Nat) : Int), ((k : Nat) : Int)), .inr (.inr (1, 93)), .inl (((4 * u + k : Nat) : Int), ((4 * u + k : Nat) : Int)), .inr (.inr (1, 92))], List.set (α := XC) w 92 (.inr (0, zfl ru (4 * u) (fun k => .inl ((it[k]?).getD 0, (it[k]?).getD 0)) k)), 0, 0)) (q := _) rfl rfl ?_
    refine yreach.at (S' := (72, [(4, .inl (((k : Nat) : Int), ((k : Nat) : Int))), (3, .inl (zCn it k, zCn it k)), (0, .inr (.inr (1, 57))), (1, .inl (((u : Nat) : Int), ((u : Nat) : Int))), (2, .inl (t, t))], [.inl (x, x), .inl (((4 * u + k : Nat) : Int), ((4 * u + k : Nat) : Int)), .inr (.inr (1, 92))], List.set (α := XC) w 92 (.inr (0, zfl ru (4 * u) (fun k => .inl ((it[k]?).getD 0, (it[k]?).getD 0)) k)), 0, 0)) (q := _) rfl (sx_iald h93' (zread (zarr_at x1))) ?_
    refine yreach.at (S' := (73, [(4, .inl (((k : Nat) : Int), ((k : Nat) : Int))), (3, .inl (zCn it k, zCn it k)), (0, .inr (.inr (1, 57))), (1, .inl (((u : Nat) : Int), ((u : Nat) : Int))), (2, .inl (t, t))], [], List.set (α := XC) w 92 (.inr (0, (zfl ru (4 * u) (fun k => .inl ((it[k]?).getD 0, (it[k]?).getD 0)) k).set (4 * u + k) (.inl (x, x)))), 0, 0)) (q := _) rfl (sx_iastS al (zwrite hkl)) ?_
    refine yreach.at (S' := (74, [(4, .inl (((k : Nat) : Int), ((k : Nat) : Int))), (3, .inl (zCn it k, zCn it k)), (0, .inr (.inr (1, 57))), (1, .inl (((u : Nat) : Int), ((u : Nat) : Int))), (2, .inl (t, t))], [.inl (zCn it k, zCn it k)], List.set (α := XC) w 92 (.inr (0, (zfl ru (4 * u) (fun k => .inl ((it[k]?).getD 0, (it[k]?).getD 0)) k).set (4 * u + k) (.inl (x, x)))), 0, 0)) (q := _) rfl rfl ?_
    refine yreach.at (S' := (75, [(4, .inl (((k : Nat) : Int), ((k : Nat) : Int))), (3, .inl (zCn it k, zCn it k)), (0, .inr (.inr (1, 57))), (1, .inl (((u : Nat) : Int), ((u : Nat) : Int))), (2, .inl (t, t))], [.inr (.inr (1, 57)), .inl (zCn it k, zCn it k)], List.set (α := XC) w 92 (.inr (0, (zfl ru (4 * u) (fun k => .inl ((it[k]?).getD 0, (it[k]?).getD 0)) k).set (4 * u + k) (.inl (x, x)))), 0, 0)) (q := _) rfl rfl ?_
    refine yreach.at (S' := (78, [(4, .inl (((k : Nat) : Int), ((k : Nat) : Int))), (3, .inl (zCn it k, zCn it k)), (0, .inr (.inr (1, 57))), (1, .inl (((u : Nat) : Int), ((u : Nat) : Int))), (2, .inl (t, t))], [.inr (.inr (1, 93)), .inl (zCn it k, zCn it k)], List.set (α := XC) w 92 (.inr (0, (zfl ru (4 * u) (fun k => .inl ((it[k]?).getD 0, (it[k]?).getD 0)) k).set (4 * u + k) (.inl (x, x)))), 0, 0)) (q := _) rfl (sx_get hw2 g45) ?_
    refine yreach.at (S' := (80, [(4, .inl (((k : Nat) : Int), ((k : Nat) : Int))), (3, .inl (zCn it k, zCn it k)), (0, .inr (.inr (1, 57))), (1, .inl (((u : Nat) : Int), ((u : Nat) : Int))), (2, .inl (t, t))], [.inl (((k : Nat) : Int), ((k : Nat) : Int)), .inr (.inr (1, 93)), .inl (zCn it k, zCn it k)], List.set (α := XC) w 92 (.inr (0, (zfl ru (4 * u) (fun k => .inl ((it[k]?).getD 0, (it[k]?).getD 0)) k).set (4 * u + k) (.inl (x, x)))), 0, 0)) (q := _) rfl rfl ?_
    refine yreach.at (S' := (81, [(4, .inl (((k : Nat) : Int), ((k : Nat) : Int))), (3, .inl (zCn it k, zCn it k)), (0, .inr (.inr (1, 57))), (1, .inl (((u : Nat) : Int), ((u : Nat) : Int))), (2, .inl (t, t))], [.inl (x, x), .inl (zCn it k, zCn it k)], List.set (α := XC) w 92 (.inr (0, (zfl ru (4 * u) (fun k => .inl ((it[k]?).getD 0, (it[k]?).getD 0)) k).set (4 * u + k) (.inl (x, x)))), 0, 0)) (q := _) rfl (sx_iald h932 (zread (zarr_at x1))) ?_
    by_cases h9 : x = -9
    · refine yreach.at (S' := (88, [(4, .inl (((k : Nat) : Int), ((k : Nat) : Int))), (3, .inl (zCn it k, zCn it k)), (0, .inr (.inr (1, 57))), (1, .inl (((u : Nat) : Int), ((u : Nat) : Int))), (2, .inl (t, t))], [.inl (zCn it k, zCn it k)], List.set (α := XC) w 92 (.inr (0, (zfl ru (4 * u) (fun k => .inl ((it[k]?).getD 0, (it[k]?).getD 0)) k).set (4 * u + k) (.inl (x, x)))), 0, 0)) (q := _) rfl (sx_if (o := true) (zcmp (show xcmp .lt _ _ = _ from xlt_of) (decide_eq_true (by omega)))) ?_
      refine yreach.at (S' := (89, [(4, .inl (((k : Nat) : Int), ((k : Nat) : Int))), (3, .inl (zCn it k, zCn it k)), (0, .inr (.inr (1, 57))), (1, .inl (((u : Nat) : Int), ((u : Nat) : Int))), (2, .inl (t, t))], [.inl (0, 0), .inl (zCn it k, zCn it k)], List.set (α := XC) w 92 (.inr (0, (zfl ru (4 * u) (fun k => .inl ((it[k]?).getD 0, (it[k]?).getD 0)) k).set (4 * u + k) (.inl (x, x)))), 0, 0)) (q := _) rfl rfl ?_
      refine yreach.at (S' := (90, [(4, .inl (((k : Nat) : Int), ((k : Nat) : Int))), (3, .inl (zCn it k, zCn it k)), (0, .inr (.inr (1, 57))), (1, .inl (((u : Nat) : Int), ((u : Nat) : Int))), (2, .inl (t, t))], [.inl ((zCn it k + 0), (zCn it k + 0))], List.set (α := XC) w 92 (.inr (0, (zfl ru (4 * u) (fun k => .inl ((it[k]?).getD 0, (it[k]?).getD 0)) k).set (4 * u + k) (.inl (x, x)))), 0, 0)) (q := _) rfl (sx_bin rfl (zadd (by rfl) (by omega))) ?_
      refine yreach.at (S' := (91, [(3, .inl ((zCn it k + 0), (zCn it k + 0))), (4, .inl (((k : Nat) : Int), ((k : Nat) : Int))), (0, .inr (.inr (1, 57))), (1, .inl (((u : Nat) : Int), ((u : Nat) : Int))), (2, .inl (t, t))], [], List.set (α := XC) w 92 (.inr (0, (zfl ru (4 * u) (fun k => .inl ((it[k]?).getD 0, (it[k]?).getD 0)) k).set (4 * u + k) (.inl (x, x)))), 0, 0)) (q := _) rfl rfl ?_
      refine yreach.at (S' := (94, [(4, .inl ((((k : Nat) : Int) + 1), (((k : Nat) : Int) + 1))), (3, .inl ((zCn it k + 0), (zCn it k + 0))), (0, .inr (.inr (1, 57))), (1, .inl (((u : Nat) : Int), ((u : Nat) : Int))), (2, .inl (t, t))], [], List.set (α := XC) w 92 (.inr (0, (zfl ru (4 * u) (fun k => .inl ((it[k]?).getD 0, (it[k]?).getD 0)) k).set (4 * u + k) (.inl (x, x)))), 0, 0)) (q := _) rfl (sx_iinc (z := 1) rfl (Nat.le_of_ble_eq_true rfl) (by omega)) ?_
      refine yreach.at (S' := (49, [(4, .inl ((((k : Nat) : Int) + 1), (((k : Nat) : Int) + 1))), (3, .inl ((zCn it k + 0), (zCn it k + 0))), (0, .inr (.inr (1, 57))), (1, .inl (((u : Nat) : Int), ((u : Nat) : Int))), (2, .inl (t, t))], [], List.set (α := XC) w 92 (.inr (0, (zfl ru (4 * u) (fun k => .inl ((it[k]?).getD 0, (it[k]?).getD 0)) k).set (4 * u + k) (.inl (x, x)))), 0, 0)) (q := _) rfl rfl ?_
      rw [if_pos h9] at ih
      exact ih
    · refine yreach.at (S' := (84, [(4, .inl (((k : Nat) : Int), ((k : Nat) : Int))), (3, .inl (zCn it k, zCn it k)), (0, .inr (.inr (1, 57))), (1, .inl (((u : Nat) : Int), ((u : Nat) : Int))), (2, .inl (t, t))], [.inl (zCn it k, zCn it k)], List.set (α := XC) w 92 (.inr (0, (zfl ru (4 * u) (fun k => .inl ((it[k]?).getD 0, (it[k]?).getD 0)) k).set (4 * u + k) (.inl (x, x)))), 0, 0)) (q := _) rfl (sx_if (o := false) (zcmp (show xcmp .lt _ _ = _ from xlt_of) (decide_eq_false (by omega)))) ?_
      refine yreach.at (S' := (85, [(4, .inl (((k : Nat) : Int), ((k : Nat) : Int))), (3, .inl (zCn it k, zCn it k)), (0, .inr (.inr (1, 57))), (1, .inl (((u : Nat) : Int), ((u : Nat) : Int))), (2, .inl (t, t))], [.inl (1, 1), .inl (zCn it k, zCn it k)], List.set (α := XC) w 92 (.inr (0, (zfl ru (4 * u) (fun k => .inl ((it[k]?).getD 0, (it[k]?).getD 0)) k).set (4 * u + k) (.inl (x, x)))), 0, 0)) (q := _) rfl rfl ?_
      refine yreach.at (S' := (89, [(4, .inl (((k : Nat) : Int), ((k : Nat) : Int))), (3, .inl (zCn it k, zCn it k)), (0, .inr (.inr (1, 57))), (1, .inl (((u : Nat) : Int), ((u : Nat) : Int))), (2, .inl (t, t))], [.inl (1, 1), .inl (zCn it k, zCn it k)], List.set (α := XC) w 92 (.inr (0, (zfl ru (4 * u) (fun k => .inl ((it[k]?).getD 0, (it[k]?).getD 0)) k).set (4 * u + k) (.inl (x, x)))), 0, 0)) (q := _) rfl rfl ?_
      refine yreach.at (S' := (90, [(4, .inl (((k : Nat) : Int), ((k : Nat) : Int))), (3, .inl (zCn it k, zCn it k)), (0, .inr (.inr (1, 57))), (1, .inl (((u : Nat) : Int), ((u : Nat) : Int))), (2, .inl (t, t))], [.inl ((zCn it k + 1), (zCn it k + 1))], List.set (α := XC) w 92 (.inr (0, (zfl ru (4 * u) (fun k => .inl ((it[k]?).getD 0, (it[k]?).getD 0)) k).set (4 * u + k) (.inl (x, x)))), 0, 0)) (q := _) rfl (sx_bin rfl (zadd (by rfl) (by omega))) ?_
      refine yreach.at (S' := (91, [(3, .inl ((zCn it k + 1), (zCn it k + 1))), (4, .inl (((k : Nat) : Int), ((k : Nat) : Int))), (0, .inr (.inr (1, 57))), (1, .inl (((u : Nat) : Int), ((u : Nat) : Int))), (2, .inl (t, t))], [], List.set (α := XC) w 92 (.inr (0, (zfl ru (4 * u) (fun k => .inl ((it[k]?).getD 0, (it[k]?).getD 0)) k).set (4 * u + k) (.inl (x, x)))), 0, 0)) (q := _) rfl rfl ?_
      refine yreach.at (S' := (94, [(4, .inl ((((k : Nat) : Int) + 1), (((k : Nat) : Int) + 1))), (3, .inl ((zCn it k + 1), (zCn it k + 1))), (0, .inr (.inr (1, 57))), (1, .inl (((u : Nat) : Int), ((u : Nat) : Int))), (2, .inl (t, t))], [], List.set (α := XC) w 92 (.inr (0, (zfl ru (4 * u) (fun k => .inl ((it[k]?).getD 0, (it[k]?).getD 0)) k).set (4 * u + k) (.inl (x, x)))), 0, 0)) (q := _) rfl (sx_iinc (z := 1) rfl (Nat.le_of_ble_eq_true rfl) (by omega)) ?_
      refine yreach.at (S' := (49, [(4, .inl ((((k : Nat) : Int) + 1), (((k : Nat) : Int) + 1))), (3, .inl ((zCn it k + 1), (zCn it k + 1))), (0, .inr (.inr (1, 57))), (1, .inl (((u : Nat) : Int), ((u : Nat) : Int))), (2, .inl (t, t))], [], List.set (α := XC) w 92 (.inr (0, (zfl ru (4 * u) (fun k => .inl ((it[k]?).getD 0, (it[k]?).getD 0)) k).set (4 * u + k) (.inl (x, x)))), 0, 0)) (q := _) rfl rfl ?_
      rw [if_neg h9] at ih
      exact ih
theorem zmb_y {w : XW} {a : Int} (h : (0 ≤ a ∧ a ≤ 5)) : XMet l D vwCl (tysX tA) tA ex (xSTX ++ [sc]) xSV xNW xNF xTs xm188 [.inl (a, a)] w (some (.inl (1, 1))) w := by
  refine zex (j := 188) rfl (Nat.le_of_ble_eq_true rfl) ?_
  refine yreach.at (S' := (1, [(0, .inl (a, a))], [.inl (a, a)], w, 0, 0)) (q := _) rfl rfl ?_
  refine yreach.at (S' := (2, [(0, .inl (a, a))], [.inl (0, 0), .inl (a, a)], w, 0, 0)) (q := _) rfl rfl ?_
  refine yreach.at (S' := (3, [(0, .inl (a, a))], [.inl (5, 5), .inl (0, 0), .inl (a, a)], w, 0, 0)) (q := _) rfl rfl ?_
  refine ycall_at (N := xm160) (ro := some (.inl (1, 1))) (w' := w) (recv := false) (i := .invokestatic 146) (a := 160) (na := 3) (z := 0) rfl (fun _ => rfl) rfl (zin_y (by omega)) ⟨Nat.le_of_ble_eq_true rfl, Nat.le_of_ble_eq_true rfl, Nat.le_of_ble_eq_true rfl, Nat.le_of_ble_eq_true rfl, Nat.le_of_ble_eq_true rfl, Nat.le_of_ble_eq_true rfl, rfl⟩ ?_
  show yreach (ySt sc xm188) (yJm l D tA ex sc xm188) (_) (6, [(0, .inl (a, a))], [.inl (1, 1)], w, 0, 0)
  exact yreach.ret (q := (some (.inl (1, 1)), w, 0, 0)) ((xstep_at rfl).trans rfl) rfl
theorem zmb_n {w : XW} {a : Int} (h : ¬ (0 ≤ a ∧ a ≤ 5)) : XMet l D vwCl (tysX tA) tA ex (xSTX ++ [sc]) xSV xNW xNF xTs xm188 [.inl (a, a)] w (some (.inl (0, 0))) w := by
  refine zex (j := 188) rfl (Nat.le_of_ble_eq_true rfl) ?_
  refine yreach.at (S' := (1, [(0, .inl (a, a))], [.inl (a, a)], w, 0, 0)) (q := _) rfl rfl ?_
  refine yreach.at (S' := (2, [(0, .inl (a, a))], [.inl (0, 0), .inl (a, a)], w, 0, 0)) (q := _) rfl rfl ?_
  refine yreach.at (S' := (3, [(0, .inl (a, a))], [.inl (5, 5), .inl (0, 0), .inl (a, a)], w, 0, 0)) (q := _) rfl rfl ?_
  refine ycall_at (N := xm160) (ro := some (.inl (0, 0))) (w' := w) (recv := false) (i := .invokestatic 146) (a := 160) (na := 3) (z := 0) rfl (fun _ => rfl) rfl (zin_n (by omega)) ⟨Nat.le_of_ble_eq_true rfl, Nat.le_of_ble_eq_true rfl, Nat.le_of_ble_eq_true rfl, Nat.le_of_ble_eq_true rfl, Nat.le_of_ble_eq_true rfl, Nat.le_of_ble_eq_true rfl, rfl⟩ ?_
  show yreach (ySt sc xm188) (yJm l D tA ex sc xm188) (_) (6, [(0, .inl (a, a))], [.inl (0, 0)], w, 0, 0)
  exact yreach.ret (q := (some (.inl (0, 0)), w, 0, 0)) ((xstep_at rfl).trans rfl) rfl
set_option maxHeartbeats 8000000 in
theorem zm_rules {ks : List Nat} {w : XW} {S T : ZS} (hU : zU ks w S T) {b a : Int} : ∃ w', XMet l D vwCl (tysX tA) tA ex (xSTX ++ [sc]) xSV xNW xNF xTs xm228 [.inr (.inr (1, 57)), .inl (b, b), .inl (a, a)] w (some (.inl ((zRuA T b a), (zRuA T b a)))) w' ∧ zU ks w' S T := by
  obtain ⟨fs, hw, g7, g8, g9, g10, g11⟩ := zf57 hU.1 hU.2.1
  obtain ⟨g45, g44, x1, x2, x3, x4, hn⟩ := zf93 hU.1 hU.2.1 hw
  by_cases hb : 0 ≤ b ∧ b < 6
  · obtain ⟨u, rfl⟩ : ∃ r : Nat, b = (r : Int) := ⟨b.toNat, by omega⟩
    have hu : u < 6 := by omega
    by_cases ha : 0 ≤ a ∧ a < 4
    · obtain ⟨r, rfl⟩ : ∃ r : Nat, a = (r : Int) := ⟨a.toNat, by omega⟩
      have hr : r < 4 := by omega
      obtain ⟨sz, es, a1, a2, a3, a4, a5⟩ := hU.2.2.2.2
      obtain ⟨z, b1, b2⟩ := a5 r hr
      have n0 : ¬ ((u : Int) < 0 ∨ 6 ≤ (u : Int) ∨ (r : Int) < 0 ∨ 4 ≤ (r : Int)) := by omega
      have eA : zRuA T (u : Int) (r : Int) = (match T (6 + r) with
        | none => -3
        | some L => if (zPr L 40 0 [-9, -9, -9, -9]).1 = -9 then zCn (zPr L 40 0 [-9, -9, -9, -9]).2 4 else -4) := if_neg n0
      rw [eA]
      cases hS : T (6 + r) with
      | none =>
        rw [hS] at b2
        have b2 : z < 0 := b2
        obtain ⟨w2, m2, hU2⟩ := zmeets (l := l) (D := D) (tA := tA) (ex := ex) (sc := sc) hU (v := 1) (by decide)
        refine ⟨w2, zex (j := 228) rfl (Nat.le_of_ble_eq_true rfl) ?_, hU2⟩
        refine yreach.at (S' := (1, [(0, .inr (.inr (1, 57))), (1, .inl ((u : Int), (u : Int))), (2, .inl ((r : Int), (r : Int)))], [.inl ((u : Int), (u : Int))], w, 0, 0)) (q := _) rfl rfl ?_
        refine ycall_at (N := xm188) (ro := some (.inl (1, 1))) (w' := w) (recv := false) (i := .invokestatic 204) (a := 188) (na := 1) (z := 0) rfl (fun _ => rfl) rfl (zmb_y (by omega)) ⟨Nat.le_of_ble_eq_true rfl, Nat.le_of_ble_eq_true rfl, Nat.le_of_ble_eq_true rfl, Nat.le_of_ble_eq_true rfl, Nat.le_of_ble_eq_true rfl, Nat.le_of_ble_eq_true rfl, rfl⟩ ?_
        show yreach (ySt sc xm228) (yJm l D tA ex sc xm228) (_) (4, [(0, .inr (.inr (1, 57))), (1, .inl ((u : Int), (u : Int))), (2, .inl ((r : Int), (r : Int)))], [.inl (1, 1)], w, 0, 0)
        refine yreach.at (S' := (7, [(0, .inr (.inr (1, 57))), (1, .inl ((u : Int), (u : Int))), (2, .inl ((r : Int), (r : Int)))], [], w, 0, 0)) (q := _) rfl (sx_if (o := false) (zcmp xceq_of (decide_eq_false (by omega)))) ?_
        refine yreach.at (S' := (8, [(0, .inr (.inr (1, 57))), (1, .inl ((u : Int), (u : Int))), (2, .inl ((r : Int), (r : Int)))], [.inl ((r : Int), (r : Int))], w, 0, 0)) (q := _) rfl rfl ?_
        refine ycall_at (N := xm170) (ro := some (.inl (1, 1))) (w' := w) (recv := false) (i := .invokestatic 162) (a := 170) (na := 1) (z := 0) rfl (fun _ => rfl) rfl (zist_y (by omega)) ⟨Nat.le_of_ble_eq_true rfl, Nat.le_of_ble_eq_true rfl, Nat.le_of_ble_eq_true rfl, Nat.le_of_ble_eq_true rfl, Nat.le_of_ble_eq_true rfl, Nat.le_of_ble_eq_true rfl, rfl⟩ ?_
        show yreach (ySt sc xm228) (yJm l D tA ex sc xm228) (_) (11, [(0, .inr (.inr (1, 57))), (1, .inl ((u : Int), (u : Int))), (2, .inl ((r : Int), (r : Int)))], [.inl (1, 1)], w, 0, 0)
        refine yreach.at (S' := (16, [(0, .inr (.inr (1, 57))), (1, .inl ((u : Int), (u : Int))), (2, .inl ((r : Int), (r : Int)))], [], w, 0, 0)) (q := _) rfl (sx_if (o := true) (zcmp xcne_of (decide_eq_true (by omega)))) ?_
        refine yreach.at (S' := (17, [(0, .inr (.inr (1, 57))), (1, .inl ((u : Int), (u : Int))), (2, .inl ((r : Int), (r : Int)))], [.inr (.inr (1, 57))], w, 0, 0)) (q := _) rfl rfl ?_
        refine yreach.at (S' := (20, [(0, .inr (.inr (1, 57))), (1, .inl ((u : Int), (u : Int))), (2, .inl ((r : Int), (r : Int)))], [.inr (.inr (1, 62))], w, 0, 0)) (q := _) rfl (sx_get hw g10) ?_
        refine yreach.at (S' := (21, [(0, .inr (.inr (1, 57))), (1, .inl ((u : Int), (u : Int))), (2, .inl ((r : Int), (r : Int)))], [.inl ((r : Int), (r : Int)), .inr (.inr (1, 62))], w, 0, 0)) (q := _) rfl rfl ?_
        refine yreach.at (S' := (22, [(0, .inr (.inr (1, 57))), (1, .inl ((u : Int), (u : Int))), (2, .inl ((r : Int), (r : Int)))], [.inl (z, z)], w, 0, 0)) (q := _) rfl (sx_iald a1 (zread b1)) ?_
        refine yreach.at (S' := (25, [(0, .inr (.inr (1, 57))), (1, .inl ((u : Int), (u : Int))), (2, .inl ((r : Int), (r : Int)))], [], w, 0, 0)) (q := _) rfl (sx_if (o := false) (zcmp xge_of (decide_eq_false (by omega)))) ?_
        refine yreach.at (S' := (26, [(0, .inr (.inr (1, 57))), (1, .inl ((u : Int), (u : Int))), (2, .inl ((r : Int), (r : Int)))], [.inr (.inr (1, 57))], w, 0, 0)) (q := _) rfl rfl ?_
        refine yreach.at (S' := (27, [(0, .inr (.inr (1, 57))), (1, .inl ((u : Int), (u : Int))), (2, .inl ((r : Int), (r : Int)))], [.inl (1, 1), .inr (.inr (1, 57))], w, 0, 0)) (q := _) rfl rfl ?_
        refine ycall_at (N := xm161) (ro := some (.inl (-3, -3))) (w' := w2) (recv := true) (i := .invokevirtual 158) (a := 161) (na := 2) (z := 0) rfl (fun _ => rfl) rfl m2 ⟨Nat.le_of_ble_eq_true rfl, Nat.le_of_ble_eq_true rfl, Nat.le_of_ble_eq_true rfl, Nat.le_of_ble_eq_true rfl, Nat.le_of_ble_eq_true rfl, Nat.le_of_ble_eq_true rfl, (xrecv_at (as := [.inl (1, 1)]) hw)⟩ ?_
        show yreach (ySt sc xm228) (yJm l D tA ex sc xm228) (_) (30, [(0, .inr (.inr (1, 57))), (1, .inl ((u : Int), (u : Int))), (2, .inl ((r : Int), (r : Int)))], [.inl (-3, -3)], w2, 0, 0)
        exact yreach.ret (q := (some (.inl (-3, -3)), w2, 0, 0)) ((xstep_at rfl).trans rfl) rfl
      | some L =>
        rw [hS] at b2
        have hL40 := b2.2.1
        have hzL := b2.1
        subst hzL
        have mr := zm_read (l := l) (D := D) (tA := tA) (ex := ex) (sc := sc) hr hw g10 g11 a1 a2 b1 b2.2.2 hL40 g45 hn
        have hU2 : zU ks (List.set (α := XC) w 93 (.inr (0, zarr (zPr L 40 0 [-9, -9, -9, -9]).2))) S T := zU_arr hU (hU.2.1.at (i := 93) (k := 66) rfl) (show yKD 66 = some yK_66 from rfl) hn (zarr_len.trans (zPr_it zit0).1) (zarr_ty (zPr_it zit0)) rfl rfl
        dsimp only
        have hit := zPr_it (L := L) (f := 40) (i := 0) zit0
        generalize hP : zPr L 40 0 [-9, -9, -9, -9] = P at mr hU2 hit ⊢
        by_cases hF : P.1 = -9
        · rw [if_pos hF]
          have w93 : (List.set (α := XC) w 93 (.inr (0, zarr P.2)))[93]? = some (.inr (0, zarr P.2)) := List.getElem?_set_self (List.getElem?_eq_some_iff.mp hn).1
          have hw' : (List.set (α := XC) w 93 (.inr (0, zarr P.2)))[57]? = some (.inl (10, fs)) := by
            rw [List.getElem?_set_ne (by decide)]
            exact hw
          obtain ⟨ru, r1, rl, _⟩ := yheap_a hU2.1 (hU2.2.1.at (i := 92) (k := 65) rfl) (show yKD 65 = some yK_65 from rfl)
          have r1 : (List.set (α := XC) w 93 (.inr (0, zarr P.2)))[92]? = some (.inr (0, ru)) := r1
          have rl : ru.length = 24 := rl
          have e0 := zself r1
          have hU3 : zU ks (List.set (α := XC) (List.set (α := XC) w 93 (.inr (0, zarr P.2))) 92 (.inr (0, zfl ru (4 * u) (fun k => .inl ((P.2[k]?).getD 0, (P.2[k]?).getD 0)) 4))) S T := zU_arr hU2 (hU2.2.1.at (i := 92) (k := 65) rfl) (show yKD 65 = some yK_65 from rfl) r1 (zfl_len.trans rl) (zty_fl (zty_of hU2.1 (hU2.2.1.at (i := 92) (k := 65) rfl) (show yKD 65 = some yK_65 from rfl) r1).1 (fun k hk => by
            obtain ⟨y, _, y2, y3⟩ := zIt_at hit hk
            exact ⟨y, by rw [y2], by omega, by omega⟩)) rfl rfl
          refine ⟨_, zex (j := 228) rfl (Nat.le_of_ble_eq_true rfl) ?_, hU3⟩
          refine yreach.at (S' := (1, [(0, .inr (.inr (1, 57))), (1, .inl ((u : Int), (u : Int))), (2, .inl ((r : Int), (r : Int)))], [.inl ((u : Int), (u : Int))], w, 0, 0)) (q := _) rfl rfl ?_
          refine ycall_at (N := xm188) (ro := some (.inl (1, 1))) (w' := w) (recv := false) (i := .invokestatic 204) (a := 188) (na := 1) (z := 0) rfl (fun _ => rfl) rfl (zmb_y (by omega)) ⟨Nat.le_of_ble_eq_true rfl, Nat.le_of_ble_eq_true rfl, Nat.le_of_ble_eq_true rfl, Nat.le_of_ble_eq_true rfl, Nat.le_of_ble_eq_true rfl, Nat.le_of_ble_eq_true rfl, rfl⟩ ?_
          show yreach (ySt sc xm228) (yJm l D tA ex sc xm228) (_) (4, [(0, .inr (.inr (1, 57))), (1, .inl ((u : Int), (u : Int))), (2, .inl ((r : Int), (r : Int)))], [.inl (1, 1)], w, 0, 0)
          refine yreach.at (S' := (7, [(0, .inr (.inr (1, 57))), (1, .inl ((u : Int), (u : Int))), (2, .inl ((r : Int), (r : Int)))], [], w, 0, 0)) (q := _) rfl (sx_if (o := false) (zcmp xceq_of (decide_eq_false (by omega)))) ?_
          refine yreach.at (S' := (8, [(0, .inr (.inr (1, 57))), (1, .inl ((u : Int), (u : Int))), (2, .inl ((r : Int), (r : Int)))], [.inl ((r : Int), (r : Int))], w, 0, 0)) (q := _) rfl rfl ?_
          refine ycall_at (N := xm170) (ro := some (.inl (1, 1))) (w' := w) (recv := false) (i := .invokestatic 162) (a := 170) (na := 1) (z := 0) rfl (fun _ => rfl) rfl (zist_y (by omega)) ⟨Nat.le_of_ble_eq_true rfl, Nat.le_of_ble_eq_true rfl, Nat.le_of_ble_eq_true rfl, Nat.le_of_ble_eq_true rfl, Nat.le_of_ble_eq_true rfl, Nat.le_of_ble_eq_true rfl, rfl⟩ ?_
          show yreach (ySt sc xm228) (yJm l D tA ex sc xm228) (_) (11, [(0, .inr (.inr (1, 57))), (1, .inl ((u : Int), (u : Int))), (2, .inl ((r : Int), (r : Int)))], [.inl (1, 1)], w, 0, 0)
          refine yreach.at (S' := (16, [(0, .inr (.inr (1, 57))), (1, .inl ((u : Int), (u : Int))), (2, .inl ((r : Int), (r : Int)))], [], w, 0, 0)) (q := _) rfl (sx_if (o := true) (zcmp xcne_of (decide_eq_true (by omega)))) ?_
          refine yreach.at (S' := (17, [(0, .inr (.inr (1, 57))), (1, .inl ((u : Int), (u : Int))), (2, .inl ((r : Int), (r : Int)))], [.inr (.inr (1, 57))], w, 0, 0)) (q := _) rfl rfl ?_
          refine yreach.at (S' := (20, [(0, .inr (.inr (1, 57))), (1, .inl ((u : Int), (u : Int))), (2, .inl ((r : Int), (r : Int)))], [.inr (.inr (1, 62))], w, 0, 0)) (q := _) rfl (sx_get hw g10) ?_
          refine yreach.at (S' := (21, [(0, .inr (.inr (1, 57))), (1, .inl ((u : Int), (u : Int))), (2, .inl ((r : Int), (r : Int)))], [.inl ((r : Int), (r : Int)), .inr (.inr (1, 62))], w, 0, 0)) (q := _) rfl rfl ?_
          refine yreach.at (S' := (22, [(0, .inr (.inr (1, 57))), (1, .inl ((u : Int), (u : Int))), (2, .inl ((r : Int), (r : Int)))], [.inl ((L.length : Int), (L.length : Int))], w, 0, 0)) (q := _) rfl (sx_iald a1 (zread b1)) ?_
          refine yreach.at (S' := (31, [(0, .inr (.inr (1, 57))), (1, .inl ((u : Int), (u : Int))), (2, .inl ((r : Int), (r : Int)))], [], w, 0, 0)) (q := _) rfl (sx_if (o := true) (zcmp xge_of (decide_eq_true (by omega)))) ?_
          refine yreach.at (S' := (32, [(0, .inr (.inr (1, 57))), (1, .inl ((u : Int), (u : Int))), (2, .inl ((r : Int), (r : Int)))], [.inr (.inr (1, 57))], w, 0, 0)) (q := _) rfl rfl ?_
          refine yreach.at (S' := (33, [(0, .inr (.inr (1, 57))), (1, .inl ((u : Int), (u : Int))), (2, .inl ((r : Int), (r : Int)))], [.inl ((r : Int), (r : Int)), .inr (.inr (1, 57))], w, 0, 0)) (q := _) rfl rfl ?_
          refine ycall_at (N := xm226) (ro := some (.inl (P.1, P.1))) (w' := List.set (α := XC) w 93 (.inr (0, zarr P.2))) (recv := true) (i := .invokevirtual 289) (a := 226) (na := 2) (z := 0) rfl (fun _ => rfl) rfl mr ⟨Nat.le_of_ble_eq_true rfl, Nat.le_of_ble_eq_true rfl, Nat.le_of_ble_eq_true rfl, Nat.le_of_ble_eq_true rfl, Nat.le_of_ble_eq_true rfl, Nat.le_of_ble_eq_true rfl, (xrecv_at (as := [.inl ((r : Int), (r : Int))]) hw)⟩ ?_
          show yreach (ySt sc xm228) (yJm l D tA ex sc xm228) (_) (36, [(0, .inr (.inr (1, 57))), (1, .inl ((u : Int), (u : Int))), (2, .inl ((r : Int), (r : Int)))], [.inl (P.1, P.1)], List.set (α := XC) w 93 (.inr (0, zarr P.2)), 0, 0)
          refine yreach.at (S' := (38, [(0, .inr (.inr (1, 57))), (1, .inl ((u : Int), (u : Int))), (2, .inl ((r : Int), (r : Int)))], [.inl (-9, -9), .inl (P.1, P.1)], List.set (α := XC) w 93 (.inr (0, zarr P.2)), 0, 0)) (q := _) rfl rfl ?_
          refine yreach.at (S' := (44, [(0, .inr (.inr (1, 57))), (1, .inl ((u : Int), (u : Int))), (2, .inl ((r : Int), (r : Int)))], [], List.set (α := XC) w 93 (.inr (0, zarr P.2)), 0, 0)) (q := _) rfl (sx_icmp (o := true) (zcmp xceq_of (decide_eq_true (by omega)))) ?_
          refine yreach.at (S' := (45, [(0, .inr (.inr (1, 57))), (1, .inl ((u : Int), (u : Int))), (2, .inl ((r : Int), (r : Int)))], [.inl (0, 0)], List.set (α := XC) w 93 (.inr (0, zarr P.2)), 0, 0)) (q := _) rfl rfl ?_
          refine yreach.at (S' := (46, [(3, .inl (0, 0)), (0, .inr (.inr (1, 57))), (1, .inl ((u : Int), (u : Int))), (2, .inl ((r : Int), (r : Int)))], [], List.set (α := XC) w 93 (.inr (0, zarr P.2)), 0, 0)) (q := _) rfl rfl ?_
          refine yreach.at (S' := (47, [(3, .inl (0, 0)), (0, .inr (.inr (1, 57))), (1, .inl ((u : Int), (u : Int))), (2, .inl ((r : Int), (r : Int)))], [.inl (0, 0)], List.set (α := XC) w 93 (.inr (0, zarr P.2)), 0, 0)) (q := _) rfl rfl ?_
          refine yreach.at (S' := (49, [(4, .inl (0, 0)), (3, .inl (0, 0)), (0, .inr (.inr (1, 57))), (1, .inl ((u : Int), (u : Int))), (2, .inl ((r : Int), (r : Int)))], [], List.set (α := XC) w 93 (.inr (0, zarr P.2)), 0, 0)) (q := _) rfl rfl ?_
          have hh := zmr_loop (l := l) (D := D) (tA := tA) (ex := ex) (sc := sc) (w := List.set (α := XC) w 93 (.inr (0, zarr P.2))) (t := (r : Int)) (it := P.2) hu hw' g44 g45 w93 r1 rl hit 4 0 rfl
          rw [show zfl ru (4 * u) (fun k => .inl ((P.2[k]?).getD 0, (P.2[k]?).getD 0)) 0 = ru from rfl, e0] at hh
          exact hh
        · rw [if_neg hF]
          refine ⟨_, zex (j := 228) rfl (Nat.le_of_ble_eq_true rfl) ?_, hU2⟩
          refine yreach.at (S' := (1, [(0, .inr (.inr (1, 57))), (1, .inl ((u : Int), (u : Int))), (2, .inl ((r : Int), (r : Int)))], [.inl ((u : Int), (u : Int))], w, 0, 0)) (q := _) rfl rfl ?_
          refine ycall_at (N := xm188) (ro := some (.inl (1, 1))) (w' := w) (recv := false) (i := .invokestatic 204) (a := 188) (na := 1) (z := 0) rfl (fun _ => rfl) rfl (zmb_y (by omega)) ⟨Nat.le_of_ble_eq_true rfl, Nat.le_of_ble_eq_true rfl, Nat.le_of_ble_eq_true rfl, Nat.le_of_ble_eq_true rfl, Nat.le_of_ble_eq_true rfl, Nat.le_of_ble_eq_true rfl, rfl⟩ ?_
          show yreach (ySt sc xm228) (yJm l D tA ex sc xm228) (_) (4, [(0, .inr (.inr (1, 57))), (1, .inl ((u : Int), (u : Int))), (2, .inl ((r : Int), (r : Int)))], [.inl (1, 1)], w, 0, 0)
          refine yreach.at (S' := (7, [(0, .inr (.inr (1, 57))), (1, .inl ((u : Int), (u : Int))), (2, .inl ((r : Int), (r : Int)))], [], w, 0, 0)) (q := _) rfl (sx_if (o := false) (zcmp xceq_of (decide_eq_false (by omega)))) ?_
          refine yreach.at (S' := (8, [(0, .inr (.inr (1, 57))), (1, .inl ((u : Int), (u : Int))), (2, .inl ((r : Int), (r : Int)))], [.inl ((r : Int), (r : Int))], w, 0, 0)) (q := _) rfl rfl ?_
          refine ycall_at (N := xm170) (ro := some (.inl (1, 1))) (w' := w) (recv := false) (i := .invokestatic 162) (a := 170) (na := 1) (z := 0) rfl (fun _ => rfl) rfl (zist_y (by omega)) ⟨Nat.le_of_ble_eq_true rfl, Nat.le_of_ble_eq_true rfl, Nat.le_of_ble_eq_true rfl, Nat.le_of_ble_eq_true rfl, Nat.le_of_ble_eq_true rfl, Nat.le_of_ble_eq_true rfl, rfl⟩ ?_
          show yreach (ySt sc xm228) (yJm l D tA ex sc xm228) (_) (11, [(0, .inr (.inr (1, 57))), (1, .inl ((u : Int), (u : Int))), (2, .inl ((r : Int), (r : Int)))], [.inl (1, 1)], w, 0, 0)
          refine yreach.at (S' := (16, [(0, .inr (.inr (1, 57))), (1, .inl ((u : Int), (u : Int))), (2, .inl ((r : Int), (r : Int)))], [], w, 0, 0)) (q := _) rfl (sx_if (o := true) (zcmp xcne_of (decide_eq_true (by omega)))) ?_
          refine yreach.at (S' := (17, [(0, .inr (.inr (1, 57))), (1, .inl ((u : Int), (u : Int))), (2, .inl ((r : Int), (r : Int)))], [.inr (.inr (1, 57))], w, 0, 0)) (q := _) rfl rfl ?_
          refine yreach.at (S' := (20, [(0, .inr (.inr (1, 57))), (1, .inl ((u : Int), (u : Int))), (2, .inl ((r : Int), (r : Int)))], [.inr (.inr (1, 62))], w, 0, 0)) (q := _) rfl (sx_get hw g10) ?_
          refine yreach.at (S' := (21, [(0, .inr (.inr (1, 57))), (1, .inl ((u : Int), (u : Int))), (2, .inl ((r : Int), (r : Int)))], [.inl ((r : Int), (r : Int)), .inr (.inr (1, 62))], w, 0, 0)) (q := _) rfl rfl ?_
          refine yreach.at (S' := (22, [(0, .inr (.inr (1, 57))), (1, .inl ((u : Int), (u : Int))), (2, .inl ((r : Int), (r : Int)))], [.inl ((L.length : Int), (L.length : Int))], w, 0, 0)) (q := _) rfl (sx_iald a1 (zread b1)) ?_
          refine yreach.at (S' := (31, [(0, .inr (.inr (1, 57))), (1, .inl ((u : Int), (u : Int))), (2, .inl ((r : Int), (r : Int)))], [], w, 0, 0)) (q := _) rfl (sx_if (o := true) (zcmp xge_of (decide_eq_true (by omega)))) ?_
          refine yreach.at (S' := (32, [(0, .inr (.inr (1, 57))), (1, .inl ((u : Int), (u : Int))), (2, .inl ((r : Int), (r : Int)))], [.inr (.inr (1, 57))], w, 0, 0)) (q := _) rfl rfl ?_
          refine yreach.at (S' := (33, [(0, .inr (.inr (1, 57))), (1, .inl ((u : Int), (u : Int))), (2, .inl ((r : Int), (r : Int)))], [.inl ((r : Int), (r : Int)), .inr (.inr (1, 57))], w, 0, 0)) (q := _) rfl rfl ?_
          refine ycall_at (N := xm226) (ro := some (.inl (P.1, P.1))) (w' := List.set (α := XC) w 93 (.inr (0, zarr P.2))) (recv := true) (i := .invokevirtual 289) (a := 226) (na := 2) (z := 0) rfl (fun _ => rfl) rfl mr ⟨Nat.le_of_ble_eq_true rfl, Nat.le_of_ble_eq_true rfl, Nat.le_of_ble_eq_true rfl, Nat.le_of_ble_eq_true rfl, Nat.le_of_ble_eq_true rfl, Nat.le_of_ble_eq_true rfl, (xrecv_at (as := [.inl ((r : Int), (r : Int))]) hw)⟩ ?_
          show yreach (ySt sc xm228) (yJm l D tA ex sc xm228) (_) (36, [(0, .inr (.inr (1, 57))), (1, .inl ((u : Int), (u : Int))), (2, .inl ((r : Int), (r : Int)))], [.inl (P.1, P.1)], List.set (α := XC) w 93 (.inr (0, zarr P.2)), 0, 0)
          refine yreach.at (S' := (38, [(0, .inr (.inr (1, 57))), (1, .inl ((u : Int), (u : Int))), (2, .inl ((r : Int), (r : Int)))], [.inl (-9, -9), .inl (P.1, P.1)], List.set (α := XC) w 93 (.inr (0, zarr P.2)), 0, 0)) (q := _) rfl rfl ?_
          refine yreach.at (S' := (41, [(0, .inr (.inr (1, 57))), (1, .inl ((u : Int), (u : Int))), (2, .inl ((r : Int), (r : Int)))], [], List.set (α := XC) w 93 (.inr (0, zarr P.2)), 0, 0)) (q := _) rfl (sx_icmp (o := false) (zcmp xceq_of (decide_eq_false (by omega)))) ?_
          refine yreach.at (S' := (43, [(0, .inr (.inr (1, 57))), (1, .inl ((u : Int), (u : Int))), (2, .inl ((r : Int), (r : Int)))], [.inl (-4, -4)], List.set (α := XC) w 93 (.inr (0, zarr P.2)), 0, 0)) (q := _) rfl rfl ?_
          exact yreach.ret (q := (some (.inl (-4, -4)), List.set (α := XC) w 93 (.inr (0, zarr P.2)), 0, 0)) ((xstep_at rfl).trans rfl) rfl
    · have n1 : (u : Int) < 0 ∨ 6 ≤ (u : Int) ∨ a < 0 ∨ 4 ≤ a := by omega
      rw [show zRuA T (u : Int) a = -1 from if_pos n1]
      refine ⟨w, zex (j := 228) rfl (Nat.le_of_ble_eq_true rfl) ?_, hU⟩
      refine yreach.at (S' := (1, [(0, .inr (.inr (1, 57))), (1, .inl ((u : Int), (u : Int))), (2, .inl (a, a))], [.inl ((u : Int), (u : Int))], w, 0, 0)) (q := _) rfl rfl ?_
      refine ycall_at (N := xm188) (ro := some (.inl (1, 1))) (w' := w) (recv := false) (i := .invokestatic 204) (a := 188) (na := 1) (z := 0) rfl (fun _ => rfl) rfl (zmb_y (by omega)) ⟨Nat.le_of_ble_eq_true rfl, Nat.le_of_ble_eq_true rfl, Nat.le_of_ble_eq_true rfl, Nat.le_of_ble_eq_true rfl, Nat.le_of_ble_eq_true rfl, Nat.le_of_ble_eq_true rfl, rfl⟩ ?_
      show yreach (ySt sc xm228) (yJm l D tA ex sc xm228) (_) (4, [(0, .inr (.inr (1, 57))), (1, .inl ((u : Int), (u : Int))), (2, .inl (a, a))], [.inl (1, 1)], w, 0, 0)
      refine yreach.at (S' := (7, [(0, .inr (.inr (1, 57))), (1, .inl ((u : Int), (u : Int))), (2, .inl (a, a))], [], w, 0, 0)) (q := _) rfl (sx_if (o := false) (zcmp xceq_of (decide_eq_false (by omega)))) ?_
      refine yreach.at (S' := (8, [(0, .inr (.inr (1, 57))), (1, .inl ((u : Int), (u : Int))), (2, .inl (a, a))], [.inl (a, a)], w, 0, 0)) (q := _) rfl rfl ?_
      refine ycall_at (N := xm170) (ro := some (.inl (0, 0))) (w' := w) (recv := false) (i := .invokestatic 162) (a := 170) (na := 1) (z := 0) rfl (fun _ => rfl) rfl (zist_n (by omega)) ⟨Nat.le_of_ble_eq_true rfl, Nat.le_of_ble_eq_true rfl, Nat.le_of_ble_eq_true rfl, Nat.le_of_ble_eq_true rfl, Nat.le_of_ble_eq_true rfl, Nat.le_of_ble_eq_true rfl, rfl⟩ ?_
      show yreach (ySt sc xm228) (yJm l D tA ex sc xm228) (_) (11, [(0, .inr (.inr (1, 57))), (1, .inl ((u : Int), (u : Int))), (2, .inl (a, a))], [.inl (0, 0)], w, 0, 0)
      refine yreach.at (S' := (14, [(0, .inr (.inr (1, 57))), (1, .inl ((u : Int), (u : Int))), (2, .inl (a, a))], [], w, 0, 0)) (q := _) rfl (sx_if (o := false) (zcmp xcne_of (decide_eq_false (by omega)))) ?_
      refine yreach.at (S' := (15, [(0, .inr (.inr (1, 57))), (1, .inl ((u : Int), (u : Int))), (2, .inl (a, a))], [.inl (-1, -1)], w, 0, 0)) (q := _) rfl rfl ?_
      exact yreach.ret (q := (some (.inl (-1, -1)), w, 0, 0)) ((xstep_at rfl).trans rfl) rfl
  · have n1 : b < 0 ∨ 6 ≤ b ∨ a < 0 ∨ 4 ≤ a := by omega
    rw [show zRuA T b a = -1 from if_pos n1]
    refine ⟨w, zex (j := 228) rfl (Nat.le_of_ble_eq_true rfl) ?_, hU⟩
    refine yreach.at (S' := (1, [(0, .inr (.inr (1, 57))), (1, .inl (b, b)), (2, .inl (a, a))], [.inl (b, b)], w, 0, 0)) (q := _) rfl rfl ?_
    refine ycall_at (N := xm188) (ro := some (.inl (0, 0))) (w' := w) (recv := false) (i := .invokestatic 204) (a := 188) (na := 1) (z := 0) rfl (fun _ => rfl) rfl (zmb_n (by omega)) ⟨Nat.le_of_ble_eq_true rfl, Nat.le_of_ble_eq_true rfl, Nat.le_of_ble_eq_true rfl, Nat.le_of_ble_eq_true rfl, Nat.le_of_ble_eq_true rfl, Nat.le_of_ble_eq_true rfl, rfl⟩ ?_
    show yreach (ySt sc xm228) (yJm l D tA ex sc xm228) (_) (4, [(0, .inr (.inr (1, 57))), (1, .inl (b, b)), (2, .inl (a, a))], [.inl (0, 0)], w, 0, 0)
    refine yreach.at (S' := (14, [(0, .inr (.inr (1, 57))), (1, .inl (b, b)), (2, .inl (a, a))], [], w, 0, 0)) (q := _) rfl (sx_if (o := true) (zcmp xceq_of (decide_eq_true (by omega)))) ?_
    refine yreach.at (S' := (15, [(0, .inr (.inr (1, 57))), (1, .inl (b, b)), (2, .inl (a, a))], [.inl (-1, -1)], w, 0, 0)) (q := _) rfl rfl ?_
    exact yreach.ret (q := (some (.inl (-1, -1)), w, 0, 0)) ((xstep_at rfl).trans rfl) rfl
end YH
