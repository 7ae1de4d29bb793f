/-! ===== RULES out of a TEXT ===== -/
def zLt (v : Int) : Int := if v = 72 then 0 else if v = 76 then 1 else if v = 87 then 2 else if v = 69 then 3 else -9
theorem zLt_c (v : Int) : zLt v = -9 ∨ (0 ≤ zLt v ∧ zLt v ≤ 3) := by
  unfold zLt
  repeat' split
  all_goals omega
/-- how many digits there are from p on, m at most -/
def zDg (L : List Int) : Nat → Nat → Nat
  | 0, _ => 0
  | m + 1, p => match L[p]? with
    | none => 0
    | some v => if 48 ≤ v ∧ v ≤ 57 then zDg L m (p + 1) + 1 else 0
theorem zDg_no {L : List Int} {m p : Nat} (h : L[p]? = none) : zDg L m p = 0 := by
  cases m with
  | zero => rfl
  | succ m =>
    unfold zDg
    rw [h]
theorem zDg_nd {L : List Int} {m p : Nat} {v : Int} (h : L[p]? = some v) (hv : ¬ (48 ≤ v ∧ v ≤ 57)) : zDg L m p = 0 := by
  cases m with
  | zero => rfl
  | succ m =>
    unfold zDg
    rw [h]
    exact if_neg hv
theorem zDg_d {L : List Int} {m p : Nat} {v : Int} (h : L[p]? = some v) (hv : 48 ≤ v ∧ v ≤ 57) : zDg L (m + 1) p = zDg L m (p + 1) + 1 := by
  show (match L[p]? with
    | none => 0
    | some v => if 48 ≤ v ∧ v ≤ 57 then zDg L m (p + 1) + 1 else 0) = _
  rw [h]
  exact if_pos hv
theorem zDg_le {L : List Int} : ∀ {m p : Nat}, zDg L m p ≤ m
  | 0, _ => Nat.le_refl _
  | m + 1, p => by
    cases h : L[p]? with
    | none =>
      rw [zDg_no h]
      omega
    | some v =>
      by_cases hv : 48 ≤ v ∧ v ≤ 57
      · rw [zDg_d h hv]
        have := zDg_le (L := L) (m := m) (p := p + 1)
        omega
      · rw [zDg_nd h hv]
        omega
theorem zDg_in {L : List Int} : ∀ {m p k : Nat}, k < zDg L m p → ∃ v, L[p + k]? = some v ∧ 48 ≤ v ∧ v ≤ 57
  | 0, _, _, h => by
    have h : _ < 0 := h
    omega
  | m + 1, p, k, h => by
    cases hp : L[p]? with
    | none =>
      rw [zDg_no hp] at h
      omega
    | some v =>
      by_cases hv : 48 ≤ v ∧ v ≤ 57
      · rw [zDg_d hp hv] at h
        match k, h with
        | 0, _ => exact ⟨v, hp, hv⟩
        | k + 1, h =>
          obtain ⟨u, h1, h2⟩ := zDg_in (L := L) (m := m) (p := p + 1) (k := k) (by omega)
          exact ⟨u, by rw [show p + (k + 1) = p + 1 + k by omega]; exact h1, h2⟩
      · rw [zDg_nd hp hv] at h
        omega
theorem zDg_len {L : List Int} {m p : Nat} (hp : p ≤ L.length) : p + zDg L m p ≤ L.length := by
  by_cases h : zDg L m p = 0
  · omega
  · obtain ⟨v, h1, _⟩ := zDg_in (L := L) (m := m) (p := p) (k := zDg L m p - 1) (by omega)
    have := (List.getElem?_eq_some_iff.mp h1).1
    omega
/-- the number of k digits from p on -/
def zNm (L : List Int) (p : Nat) : Nat → Int
  | 0 => 0
  | k + 1 => 10 * zNm L p k + (L[p + k]?).getD 0 - 48
theorem zNm_s {L : List Int} {p k : Nat} {v : Int} (h : L[p + k]? = some v) : zNm L p (k + 1) = 10 * zNm L p k + v - 48 := by
  show 10 * zNm L p k + (L[p + k]?).getD 0 - 48 = _
  rw [h]
  rfl
theorem zNm_rg {L : List Int} {p : Nat} : ∀ {k : Nat}, (∀ j, j < k → ∃ v, L[p + j]? = some v ∧ 48 ≤ v ∧ v ≤ 57) → 0 ≤ zNm L p k ∧ zNm L p k < 10 ^ k
  | 0, _ => by
    show (0 : Int) ≤ 0 ∧ (0 : Int) < 1
    omega
  | k + 1, h => by
    obtain ⟨a1, a2⟩ := zNm_rg (L := L) (p := p) (k := k) (fun j hj => h j (by omega))
    obtain ⟨v, h1, h2, h3⟩ := h k (by omega)
    rw [zNm_s h1, Int.pow_succ]
    omega
theorem zNm_1000 {L : List Int} {p k : Nat} (hk : k ≤ 3) (h : ∀ j, j < k → ∃ v, L[p + j]? = some v ∧ 48 ≤ v ∧ v ≤ 57) : 0 ≤ zNm L p k ∧ zNm L p k ≤ 999 := by
  obtain ⟨h1, h2⟩ := zNm_rg h
  have : k = 0 ∨ k = 1 ∨ k = 2 ∨ k = 3 := by omega
  rcases this with rfl | rfl | rfl | rfl <;> omega
/-- the reader: the FAULT (or none), the four numbers -/
def zPr (L : List Int) : Nat → Nat → List Int → Int × List Int
  | 0, _, it => (-9, it)
  | f + 1, i, it => match L[i]? with
    | none => (-9, it)
    | some v => if v = 32 then zPr L f (i + 1) it else if zLt v = -9 then ((i : Int), it) else if zDg L 3 (i + 1) = 0 then (((i + 1 : Nat) : Int), it) else if zNm L (i + 1) (zDg L 3 (i + 1)) = 0 ∧ 2 ≤ zLt v then (((i + 1 + zDg L 3 (i + 1) : Nat) : Int), it) else zPr L f (i + 1 + zDg L 3 (i + 1)) (it.set (zLt v).toNat (zNm L (i + 1) (zDg L 3 (i + 1))))
theorem zPr_no {L : List Int} {f i : Nat} {it : List Int} (h : L[i]? = none) : zPr L f i it = (-9, it) := by
  cases f with
  | zero => rfl
  | succ f =>
    unfold zPr
    rw [h]
theorem zPr_s {L : List Int} {f i : Nat} {it : List Int} {v : Int} (h : L[i]? = some v) : zPr L (f + 1) i it = if v = 32 then zPr L f (i + 1) it else if zLt v = -9 then ((i : Int), it) else if zDg L 3 (i + 1) = 0 then (((i + 1 : Nat) : Int), it) else if zNm L (i + 1) (zDg L 3 (i + 1)) = 0 ∧ 2 ≤ zLt v then (((i + 1 + zDg L 3 (i + 1) : Nat) : Int), it) else zPr L f (i + 1 + zDg L 3 (i + 1)) (it.set (zLt v).toNat (zNm L (i + 1) (zDg L 3 (i + 1)))) := by
  show (match L[i]? with
    | none => (-9, it)
    | some v => if v = 32 then zPr L f (i + 1) it else if zLt v = -9 then ((i : Int), it) else if zDg L 3 (i + 1) = 0 then (((i + 1 : Nat) : Int), it) else if zNm L (i + 1) (zDg L 3 (i + 1)) = 0 ∧ 2 ≤ zLt v then (((i + 1 + zDg L 3 (i + 1) : Nat) : Int), it) else zPr L f (i + 1 + zDg L 3 (i + 1)) (it.set (zLt v).toNat (zNm L (i + 1) (zDg L 3 (i + 1))))) = _
  rw [h]
def zIt (it : List Int) : Prop := it.length = 4 ∧ ∀ x ∈ it, x = -9 ∨ (0 ≤ x ∧ x ≤ 999)
theorem zPr_it {L : List Int} : ∀ {f i : Nat} {it : List Int}, zIt it → zIt (zPr L f i it).2
  | 0, _, _, h => h
  | f + 1, i, it, h => by
    cases hL : L[i]? with
    | none =>
      rw [zPr_no hL]
      exact h
    | some v =>
      rw [zPr_s hL]
      split
      · exact zPr_it h
      · split
        · exact h
        · split
          · exact h
          · split
            · exact h
            · refine zPr_it ⟨by rw [List.length_set]; exact h.1, fun x hx => ?_⟩
              rcases List.mem_or_eq_of_mem_set hx with hx | hx
              · exact h.2 x hx
              · obtain ⟨h1, h2⟩ := zNm_1000 (L := L) (p := i + 1) (zDg_le (m := 3)) (fun j hj => zDg_in hj)
                omega
def zarr (it : List Int) : List XV := it.map (fun z => .inl (z, z))
theorem zarr_len {it : List Int} : (zarr it).length = it.length := by simp [zarr]
theorem zarr_set {it : List Int} {u : Nat} {n : Int} : (zarr it).set u (.inl (n, n)) = zarr (it.set u n) := by
  unfold zarr
  rw [List.map_set]
theorem zarr_ty {it : List Int} (h : zIt it) : zty (zarr it) := fun j v hj => by
  unfold zarr at hj
  rw [List.getElem?_map] at hj
  cases hi : it[j]? with
  | none =>
    rw [hi] at hj
    cases hj
  | some z =>
    rw [hi] at hj
    cases hj
    have := h.2 z (List.mem_of_getElem? hi)
    exact ⟨z, rfl, by omega, by omega⟩
theorem zmul {x y u : Int} (h : x * y = u) (hx : yrg x) (hy : yrg y) (hu : yrg u) : xe2 (fun x y => x * y) (x, x) (y, y) = (u, u) := by
  obtain ⟨z, e, _, hz⟩ := xmul_ex hx hy
  rw [e, hz (by rw [h]; exact hu), h]
section XG
variable {cf : XF} {MT : Nat → Option XM} {FT : Nat → Nat → Option FieldType} {FD : Nat → Option (List XV)} {TY : Nat → Option FieldType} {TC : Nat → Option Nat} {exc : List (List XV)} {M : XM} {pc : Nat} {lv : XL} {st : List XV} {w : XW} {k n : Nat}
theorem sx_iastS {a b : Nat} {z : Int} {q : Nat} {es es' : List XV} {i x : Int × Int} (hq : q < w.length) (hv : xwrite es i (.inl x) = some es') : xins cf MT FT FD TY TC exc M .iastore a b z pc lv (.inl x :: .inl i :: .inr (.inr (1, q)) :: st) (w.set q (.inr (0, es))) k n = some (.inl (pc + 1, lv, st, w.set q (.inr (0, es')), k, n)) := by
  have h := sx_iast (cf := cf) (MT := MT) (FT := FT) (FD := FD) (TY := TY) (TC := TC) (exc := exc) (M := M) (pc := pc) (lv := lv) (st := st) (k := k) (n := n) (a := a) (b := b) (z := z) (List.getElem?_set_self (l := w) (a := (.inr (0, es) : XC)) hq) hv
  rw [List.set_set] at h
  exact h
end XG
section YH
variable {l : Launch} {D : va_G} {tA : Nat → ClassId} {ex : List Nat} {sc : List XV}
theorem zc_let {w : XW} {v : Int} : XMet l D vwCl (tysX tA) tA ex (xSTX ++ [sc]) xSV xNW xNF xTs xm105 [.inl (v, v)] w (some (.inl (zLt v, zLt v))) w := by
  by_cases h0 : v = 72
  · rw [show zLt v = 0 from by unfold zLt; rw [if_pos h0]]
    refine zex (j := 105) rfl (Nat.le_of_ble_eq_true rfl) ?_
    refine yreach.at (S' := (1, [(0, .inl (v, v))], [.inl (0, 0)], w, 0, 0)) (q := _) rfl rfl ?_
    refine yreach.at (S' := (2, [(1, .inl (0, 0)), (0, .inl (v, v))], [], w, 0, 0)) (q := _) rfl rfl ?_
    refine yreach.at (S' := (3, [(1, .inl (0, 0)), (0, .inl (v, v))], [.inl (0, 0)], w, 0, 0)) (q := _) rfl rfl ?_
    refine yreach.at (S' := (4, [(1, .inl (0, 0)), (0, .inl (v, v))], [.inl (4, 4), .inl (0, 0)], w, 0, 0)) (q := _) rfl rfl ?_
    refine yreach.at (S' := (7, [(1, .inl (0, 0)), (0, .inl (v, v))], [], w, 0, 0)) (q := _) rfl (sx_icmp (o := false) (zcmp xge_of (decide_eq_false (by omega)))) ?_
    refine yreach.at (S' := (10, [(1, .inl (0, 0)), (0, .inl (v, v))], [.inr (.inr (2, 4))], w, 0, 0)) (q := _) rfl rfl ?_
    refine yreach.at (S' := (11, [(1, .inl (0, 0)), (0, .inl (v, v))], [.inl (0, 0), .inr (.inr (2, 4))], w, 0, 0)) (q := _) rfl rfl ?_
    refine yreach.at (S' := (12, [(1, .inl (0, 0)), (0, .inl (v, v))], [.inl (72, 72)], w, 0, 0)) (q := _) rfl (by exact rfl) ?_
    refine yreach.at (S' := (13, [(1, .inl (0, 0)), (0, .inl (v, v))], [.inl (v, v), .inl (72, 72)], w, 0, 0)) (q := _) rfl rfl ?_
    refine yreach.at (S' := (16, [(1, .inl (0, 0)), (0, .inl (v, v))], [], w, 0, 0)) (q := _) rfl (sx_icmp (o := false) (zcmp xcne_of (decide_eq_false (by omega)))) ?_
    refine yreach.at (S' := (17, [(1, .inl (0, 0)), (0, .inl (v, v))], [.inl (0, 0)], w, 0, 0)) (q := _) rfl rfl ?_
    exact yreach.ret (q := (some (.inl (0, 0)), w, 0, 0)) ((xstep_at rfl).trans rfl) rfl
  by_cases h1 : v = 76
  · rw [show zLt v = 1 from by unfold zLt; rw [if_neg h0]; rw [if_pos h1]]
    refine zex (j := 105) rfl (Nat.le_of_ble_eq_true rfl) ?_
    refine yreach.at (S' := (1, [(0, .inl (v, v))], [.inl (0, 0)], w, 0, 0)) (q := _) rfl rfl ?_
    refine yreach.at (S' := (2, [(1, .inl (0, 0)), (0, .inl (v, v))], [], w, 0, 0)) (q := _) rfl rfl ?_
    refine yreach.at (S' := (3, [(1, .inl (0, 0)), (0, .inl (v, v))], [.inl (0, 0)], w, 0, 0)) (q := _) rfl rfl ?_
    refine yreach.at (S' := (4, [(1, .inl (0, 0)), (0, .inl (v, v))], [.inl (4, 4), .inl (0, 0)], w, 0, 0)) (q := _) rfl rfl ?_
    refine yreach.at (S' := (7, [(1, .inl (0, 0)), (0, .inl (v, v))], [], w, 0, 0)) (q := _) rfl (sx_icmp (o := false) (zcmp xge_of (decide_eq_false (by omega)))) ?_
    refine yreach.at (S' := (10, [(1, .inl (0, 0)), (0, .inl (v, v))], [.inr (.inr (2, 4))], w, 0, 0)) (q := _) rfl rfl ?_
    refine yreach.at (S' := (11, [(1, .inl (0, 0)), (0, .inl (v, v))], [.inl (0, 0), .inr (.inr (2, 4))], w, 0, 0)) (q := _) rfl rfl ?_
    refine yreach.at (S' := (12, [(1, .inl (0, 0)), (0, .inl (v, v))], [.inl (72, 72)], w, 0, 0)) (q := _) rfl (by exact rfl) ?_
    refine yreach.at (S' := (13, [(1, .inl (0, 0)), (0, .inl (v, v))], [.inl (v, v), .inl (72, 72)], w, 0, 0)) (q := _) rfl rfl ?_
    refine yreach.at (S' := (18, [(1, .inl (0, 0)), (0, .inl (v, v))], [], w, 0, 0)) (q := _) rfl (sx_icmp (o := true) (zcmp xcne_of (decide_eq_true (by omega)))) ?_
    refine yreach.at (S' := (21, [(1, .inl (1, 1)), (0, .inl (v, v))], [], w, 0, 0)) (q := _) rfl (by exact rfl) ?_
    refine yreach.at (S' := (2, [(1, .inl (1, 1)), (0, .inl (v, v))], [], w, 0, 0)) (q := _) rfl rfl ?_
    refine yreach.at (S' := (3, [(1, .inl (1, 1)), (0, .inl (v, v))], [.inl (1, 1)], w, 0, 0)) (q := _) rfl rfl ?_
    refine yreach.at (S' := (4, [(1, .inl (1, 1)), (0, .inl (v, v))], [.inl (4, 4), .inl (1, 1)], w, 0, 0)) (q := _) rfl rfl ?_
    refine yreach.at (S' := (7, [(1, .inl (1, 1)), (0, .inl (v, v))], [], w, 0, 0)) (q := _) rfl (sx_icmp (o := false) (zcmp xge_of (decide_eq_false (by omega)))) ?_
    refine yreach.at (S' := (10, [(1, .inl (1, 1)), (0, .inl (v, v))], [.inr (.inr (2, 4))], w, 0, 0)) (q := _) rfl rfl ?_
    refine yreach.at (S' := (11, [(1, .inl (1, 1)), (0, .inl (v, v))], [.inl (1, 1), .inr (.inr (2, 4))], w, 0, 0)) (q := _) rfl rfl ?_
    refine yreach.at (S' := (12, [(1, .inl (1, 1)), (0, .inl (v, v))], [.inl (76, 76)], w, 0, 0)) (q := _) rfl (by exact rfl) ?_
    refine yreach.at (S' := (13, [(1, .inl (1, 1)), (0, .inl (v, v))], [.inl (v, v), .inl (76, 76)], w, 0, 0)) (q := _) rfl rfl ?_
    refine yreach.at (S' := (16, [(1, .inl (1, 1)), (0, .inl (v, v))], [], w, 0, 0)) (q := _) rfl (sx_icmp (o := false) (zcmp xcne_of (decide_eq_false (by omega)))) ?_
    refine yreach.at (S' := (17, [(1, .inl (1, 1)), (0, .inl (v, v))], [.inl (1, 1)], w, 0, 0)) (q := _) rfl rfl ?_
    exact yreach.ret (q := (some (.inl (1, 1)), w, 0, 0)) ((xstep_at rfl).trans rfl) rfl
  by_cases h2 : v = 87
  · rw [show zLt v = 2 from by unfold zLt; rw [if_neg h0]; rw [if_neg h1]; rw [if_pos h2]]
    refine zex (j := 105) rfl (Nat.le_of_ble_eq_true rfl) ?_
    refine yreach.at (S' := (1, [(0, .inl (v, v))], [.inl (0, 0)], w, 0, 0)) (q := _) rfl rfl ?_
    refine yreach.at (S' := (2, [(1, .inl (0, 0)), (0, .inl (v, v))], [], w, 0, 0)) (q := _) rfl rfl ?_
    refine yreach.at (S' := (3, [(1, .inl (0, 0)), (0, .inl (v, v))], [.inl (0, 0)], w, 0, 0)) (q := _) rfl rfl ?_
    refine yreach.at (S' := (4, [(1, .inl (0, 0)), (0, .inl (v, v))], [.inl (4, 4), .inl (0, 0)], w, 0, 0)) (q := _) rfl rfl ?_
    refine yreach.at (S' := (7, [(1, .inl (0, 0)), (0, .inl (v, v))], [], w, 0, 0)) (q := _) rfl (sx_icmp (o := false) (zcmp xge_of (decide_eq_false (by omega)))) ?_
    refine yreach.at (S' := (10, [(1, .inl (0, 0)), (0, .inl (v, v))], [.inr (.inr (2, 4))], w, 0, 0)) (q := _) rfl rfl ?_
    refine yreach.at (S' := (11, [(1, .inl (0, 0)), (0, .inl (v, v))], [.inl (0, 0), .inr (.inr (2, 4))], w, 0, 0)) (q := _) rfl rfl ?_
    refine yreach.at (S' := (12, [(1, .inl (0, 0)), (0, .inl (v, v))], [.inl (72, 72)], w, 0, 0)) (q := _) rfl (by exact rfl) ?_
    refine yreach.at (S' := (13, [(1, .inl (0, 0)), (0, .inl (v, v))], [.inl (v, v), .inl (72, 72)], w, 0, 0)) (q := _) rfl rfl ?_
    refine yreach.at (S' := (18, [(1, .inl (0, 0)), (0, .inl (v, v))], [], w, 0, 0)) (q := _) rfl (sx_icmp (o := true) (zcmp xcne_of (decide_eq_true (by omega)))) ?_
    refine yreach.at (S' := (21, [(1, .inl (1, 1)), (0, .inl (v, v))], [], w, 0, 0)) (q := _) rfl (by exact rfl) ?_
    refine yreach.at (S' := (2, [(1, .inl (1, 1)), (0, .inl (v, v))], [], w, 0, 0)) (q := _) rfl rfl ?_
    refine yreach.at (S' := (3, [(1, .inl (1, 1)), (0, .inl (v, v))], [.inl (1, 1)], w, 0, 0)) (q := _) rfl rfl ?_
    refine yreach.at (S' := (4, [(1, .inl (1, 1)), (0, .inl (v, v))], [.inl (4, 4), .inl (1, 1)], w, 0, 0)) (q := _) rfl rfl ?_
    refine yreach.at (S' := (7, [(1, .inl (1, 1)), (0, .inl (v, v))], [], w, 0, 0)) (q := _) rfl (sx_icmp (o := false) (zcmp xge_of (decide_eq_false (by omega)))) ?_
    refine yreach.at (S' := (10, [(1, .inl (1, 1)), (0, .inl (v, v))], [.inr (.inr (2, 4))], w, 0, 0)) (q := _) rfl rfl ?_
    refine yreach.at (S' := (11, [(1, .inl (1, 1)), (0, .inl (v, v))], [.inl (1, 1), .inr (.inr (2, 4))], w, 0, 0)) (q := _) rfl rfl ?_
    refine yreach.at (S' := (12, [(1, .inl (1, 1)), (0, .inl (v, v))], [.inl (76, 76)], w, 0, 0)) (q := _) rfl (by exact rfl) ?_
    refine yreach.at (S' := (13, [(1, .inl (1, 1)), (0, .inl (v, v))], [.inl (v, v), .inl (76, 76)], w, 0, 0)) (q := _) rfl rfl ?_
    refine yreach.at (S' := (18, [(1, .inl (1, 1)), (0, .inl (v, v))], [], w, 0, 0)) (q := _) rfl (sx_icmp (o := true) (zcmp xcne_of (decide_eq_true (by omega)))) ?_
    refine yreach.at (S' := (21, [(1, .inl (2, 2)), (0, .inl (v, v))], [], w, 0, 0)) (q := _) rfl (by exact rfl) ?_
    refine yreach.at (S' := (2, [(1, .inl (2, 2)), (0, .inl (v, v))], [], w, 0, 0)) (q := _) rfl rfl ?_
    refine yreach.at (S' := (3, [(1, .inl (2, 2)), (0, .inl (v, v))], [.inl (2, 2)], w, 0, 0)) (q := _) rfl rfl ?_
    refine yreach.at (S' := (4, [(1, .inl (2, 2)), (0, .inl (v, v))], [.inl (4, 4), .inl (2, 2)], w, 0, 0)) (q := _) rfl rfl ?_
    refine yreach.at (S' := (7, [(1, .inl (2, 2)), (0, .inl (v, v))], [], w, 0, 0)) (q := _) rfl (sx_icmp (o := false) (zcmp xge_of (decide_eq_false (by omega)))) ?_
    refine yreach.at (S' := (10, [(1, .inl (2, 2)), (0, .inl (v, v))], [.inr (.inr (2, 4))], w, 0, 0)) (q := _) rfl rfl ?_
    refine yreach.at (S' := (11, [(1, .inl (2, 2)), (0, .inl (v, v))], [.inl (2, 2), .inr (.inr (2, 4))], w, 0, 0)) (q := _) rfl rfl ?_
    refine yreach.at (S' := (12, [(1, .inl (2, 2)), (0, .inl (v, v))], [.inl (87, 87)], w, 0, 0)) (q := _) rfl (by exact rfl) ?_
    refine yreach.at (S' := (13, [(1, .inl (2, 2)), (0, .inl (v, v))], [.inl (v, v), .inl (87, 87)], w, 0, 0)) (q := _) rfl rfl ?_
    refine yreach.at (S' := (16, [(1, .inl (2, 2)), (0, .inl (v, v))], [], w, 0, 0)) (q := _) rfl (sx_icmp (o := false) (zcmp xcne_of (decide_eq_false (by omega)))) ?_
    refine yreach.at (S' := (17, [(1, .inl (2, 2)), (0, .inl (v, v))], [.inl (2, 2)], w, 0, 0)) (q := _) rfl rfl ?_
    exact yreach.ret (q := (some (.inl (2, 2)), w, 0, 0)) ((xstep_at rfl).trans rfl) rfl
  by_cases h3 : v = 69
  · rw [show zLt v = 3 from by unfold zLt; rw [if_neg h0]; rw [if_neg h1]; rw [if_neg h2]; rw [if_pos h3]]
    refine zex (j := 105) rfl (Nat.le_of_ble_eq_true rfl) ?_
    refine yreach.at (S' := (1, [(0, .inl (v, v))], [.inl (0, 0)], w, 0, 0)) (q := _) rfl rfl ?_
    refine yreach.at (S' := (2, [(1, .inl (0, 0)), (0, .inl (v, v))], [], w, 0, 0)) (q := _) rfl rfl ?_
    refine yreach.at (S' := (3, [(1, .inl (0, 0)), (0, .inl (v, v))], [.inl (0, 0)], w, 0, 0)) (q := _) rfl rfl ?_
    refine yreach.at (S' := (4, [(1, .inl (0, 0)), (0, .inl (v, v))], [.inl (4, 4), .inl (0, 0)], w, 0, 0)) (q := _) rfl rfl ?_
    refine yreach.at (S' := (7, [(1, .inl (0, 0)), (0, .inl (v, v))], [], w, 0, 0)) (q := _) rfl (sx_icmp (o := false) (zcmp xge_of (decide_eq_false (by omega)))) ?_
    refine yreach.at (S' := (10, [(1, .inl (0, 0)), (0, .inl (v, v))], [.inr (.inr (2, 4))], w, 0, 0)) (q := _) rfl rfl ?_
    refine yreach.at (S' := (11, [(1, .inl (0, 0)), (0, .inl (v, v))], [.inl (0, 0), .inr (.inr (2, 4))], w, 0, 0)) (q := _) rfl rfl ?_
    refine yreach.at (S' := (12, [(1, .inl (0, 0)), (0, .inl (v, v))], [.inl (72, 72)], w, 0, 0)) (q := _) rfl (by exact rfl) ?_
    refine yreach.at (S' := (13, [(1, .inl (0, 0)), (0, .inl (v, v))], [.inl (v, v), .inl (72, 72)], w, 0, 0)) (q := _) rfl rfl ?_
    refine yreach.at (S' := (18, [(1, .inl (0, 0)), (0, .inl (v, v))], [], w, 0, 0)) (q := _) rfl (sx_icmp (o := true) (zcmp xcne_of (decide_eq_true (by omega)))) ?_
    refine yreach.at (S' := (21, [(1, .inl (1, 1)), (0, .inl (v, v))], [], w, 0, 0)) (q := _) rfl (by exact rfl) ?_
    refine yreach.at (S' := (2, [(1, .inl (1, 1)), (0, .inl (v, v))], [], w, 0, 0)) (q := _) rfl rfl ?_
    refine yreach.at (S' := (3, [(1, .inl (1, 1)), (0, .inl (v, v))], [.inl (1, 1)], w, 0, 0)) (q := _) rfl rfl ?_
    refine yreach.at (S' := (4, [(1, .inl (1, 1)), (0, .inl (v, v))], [.inl (4, 4), .inl (1, 1)], w, 0, 0)) (q := _) rfl rfl ?_
    refine yreach.at (S' := (7, [(1, .inl (1, 1)), (0, .inl (v, v))], [], w, 0, 0)) (q := _) rfl (sx_icmp (o := false) (zcmp xge_of (decide_eq_false (by omega)))) ?_
    refine yreach.at (S' := (10, [(1, .inl (1, 1)), (0, .inl (v, v))], [.inr (.inr (2, 4))], w, 0, 0)) (q := _) rfl rfl ?_
    refine yreach.at (S' := (11, [(1, .inl (1, 1)), (0, .inl (v, v))], [.inl (1, 1), .inr (.inr (2, 4))], w, 0, 0)) (q := _) rfl rfl ?_
    refine yreach.at (S' := (12, [(1, .inl (1, 1)), (0, .inl (v, v))], [.inl (76, 76)], w, 0, 0)) (q := _) rfl (by exact rfl) ?_
    refine yreach.at (S' := (13, [(1, .inl (1, 1)), (0, .inl (v, v))], [.inl (v, v), .inl (76, 76)], w, 0, 0)) (q := _) rfl rfl ?_
    refine yreach.at (S' := (18, [(1, .inl (1, 1)), (0, .inl (v, v))], [], w, 0, 0)) (q := _) rfl (sx_icmp (o := true) (zcmp xcne_of (decide_eq_true (by omega)))) ?_
    refine yreach.at (S' := (21, [(1, .inl (2, 2)), (0, .inl (v, v))], [], w, 0, 0)) (q := _) rfl (by exact rfl) ?_
    refine yreach.at (S' := (2, [(1, .inl (2, 2)), (0, .inl (v, v))], [], w, 0, 0)) (q := _) rfl rfl ?_
    refine yreach.at (S' := (3, [(1, .inl (2, 2)), (0, .inl (v, v))], [.inl (2, 2)], w, 0, 0)) (q := _) rfl rfl ?_
    refine yreach.at (S' := (4, [(1, .inl (2, 2)), (0, .inl (v, v))], [.inl (4, 4), .inl (2, 2)], w, 0, 0)) (q := _) rfl rfl ?_
    refine yreach.at (S' := (7, [(1, .inl (2, 2)), (0, .inl (v, v))], [], w, 0, 0)) (q := _) rfl (sx_icmp (o := false) (zcmp xge_of (decide_eq_false (by omega)))) ?_
    refine yreach.at (S' := (10, [(1, .inl (2, 2)), (0, .inl (v, v))], [.inr (.inr (2, 4))], w, 0, 0)) (q := _) rfl rfl ?_
    refine yreach.at (S' := (11, [(1, .inl (2, 2)), (0, .inl (v, v))], [.inl (2, 2), .inr (.inr (2, 4))], w, 0, 0)) (q := _) rfl rfl ?_
    refine yreach.at (S' := (12, [(1, .inl (2, 2)), (0, .inl (v, v))], [.inl (87, 87)], w, 0, 0)) (q := _) rfl (by exact rfl) ?_
    refine yreach.at (S' := (13, [(1, .inl (2, 2)), (0, .inl (v, v))], [.inl (v, v), .inl (87, 87)], w, 0, 0)) (q := _) rfl rfl ?_
    refine yreach.at (S' := (18, [(1, .inl (2, 2)), (0, .inl (v, v))], [], w, 0, 0)) (q := _) rfl (sx_icmp (o := true) (zcmp xcne_of (decide_eq_true (by omega)))) ?_
    refine yreach.at (S' := (21, [(1, .inl (3, 3)), (0, .inl (v, v))], [], w, 0, 0)) (q := _) rfl (by exact rfl) ?_
    refine yreach.at (S' := (2, [(1, .inl (3, 3)), (0, .inl (v, v))], [], w, 0, 0)) (q := _) rfl rfl ?_
    refine yreach.at (S' := (3, [(1, .inl (3, 3)), (0, .inl (v, v))], [.inl (3, 3)], w, 0, 0)) (q := _) rfl rfl ?_
    refine yreach.at (S' := (4, [(1, .inl (3, 3)), (0, .inl (v, v))], [.inl (4, 4), .inl (3, 3)], w, 0, 0)) (q := _) rfl rfl ?_
    refine yreach.at (S' := (7, [(1, .inl (3, 3)), (0, .inl (v, v))], [], w, 0, 0)) (q := _) rfl (sx_icmp (o := false) (zcmp xge_of (decide_eq_false (by omega)))) ?_
    refine yreach.at (S' := (10, [(1, .inl (3, 3)), (0, .inl (v, v))], [.inr (.inr (2, 4))], w, 0, 0)) (q := _) rfl rfl ?_
    refine yreach.at (S' := (11, [(1, .inl (3, 3)), (0, .inl (v, v))], [.inl (3, 3), .inr (.inr (2, 4))], w, 0, 0)) (q := _) rfl rfl ?_
    refine yreach.at (S' := (12, [(1, .inl (3, 3)), (0, .inl (v, v))], [.inl (69, 69)], w, 0, 0)) (q := _) rfl (by exact rfl) ?_
    refine yreach.at (S' := (13, [(1, .inl (3, 3)), (0, .inl (v, v))], [.inl (v, v), .inl (69, 69)], w, 0, 0)) (q := _) rfl rfl ?_
    refine yreach.at (S' := (16, [(1, .inl (3, 3)), (0, .inl (v, v))], [], w, 0, 0)) (q := _) rfl (sx_icmp (o := false) (zcmp xcne_of (decide_eq_false (by omega)))) ?_
    refine yreach.at (S' := (17, [(1, .inl (3, 3)), (0, .inl (v, v))], [.inl (3, 3)], w, 0, 0)) (q := _) rfl rfl ?_
    exact yreach.ret (q := (some (.inl (3, 3)), w, 0, 0)) ((xstep_at rfl).trans rfl) rfl
  rw [show zLt v = -9 from by unfold zLt; rw [if_neg h0]; rw [if_neg h1]; rw [if_neg h2]; rw [if_neg h3]]
  refine zex (j := 105) rfl (Nat.le_of_ble_eq_true rfl) ?_
  refine yreach.at (S' := (1, [(0, .inl (v, v))], [.inl (0, 0)], w, 0, 0)) (q := _) rfl rfl ?_
  refine yreach.at (S' := (2, [(1, .inl (0, 0)), (0, .inl (v, v))], [], w, 0, 0)) (q := _) rfl rfl ?_
  refine yreach.at (S' := (3, [(1, .inl (0, 0)), (0, .inl (v, v))], [.inl (0, 0)], w, 0, 0)) (q := _) rfl rfl ?_
  refine yreach.at (S' := (4, [(1, .inl (0, 0)), (0, .inl (v, v))], [.inl (4, 4), .inl (0, 0)], w, 0, 0)) (q := _) rfl rfl ?_
  refine yreach.at (S' := (7, [(1, .inl (0, 0)), (0, .inl (v, v))], [], w, 0, 0)) (q := _) rfl (sx_icmp (o := false) (zcmp xge_of (decide_eq_false (by omega)))) ?_
  refine yreach.at (S' := (10, [(1, .inl (0, 0)), (0, .inl (v, v))], [.inr (.inr (2, 4))], w, 0, 0)) (q := _) rfl rfl ?_
  refine yreach.at (S' := (11, [(1, .inl (0, 0)), (0, .inl (v, v))], [.inl (0, 0), .inr (.inr (2, 4))], w, 0, 0)) (q := _) rfl rfl ?_
  refine yreach.at (S' := (12, [(1, .inl (0, 0)), (0, .inl (v, v))], [.inl (72, 72)], w, 0, 0)) (q := _) rfl (by exact rfl) ?_
  refine yreach.at (S' := (13, [(1, .inl (0, 0)), (0, .inl (v, v))], [.inl (v, v), .inl (72, 72)], w, 0, 0)) (q := _) rfl rfl ?_
  refine yreach.at (S' := (18, [(1, .inl (0, 0)), (0, .inl (v, v))], [], w, 0, 0)) (q := _) rfl (sx_icmp (o := true) (zcmp xcne_of (decide_eq_true (by omega)))) ?_
  refine yreach.at (S' := (21, [(1, .inl (1, 1)), (0, .inl (v, v))], [], w, 0, 0)) (q := _) rfl (by exact rfl) ?_
  refine yreach.at (S' := (2, [(1, .inl (1, 1)), (0, .inl (v, v))], [], w, 0, 0)) (q := _) rfl rfl ?_
  refine yreach.at (S' := (3, [(1, .inl (1, 1)), (0, .inl (v, v))], [.inl (1, 1)], w, 0, 0)) (q := _) rfl rfl ?_
  refine yreach.at (S' := (4, [(1, .inl (1, 1)), (0, .inl (v, v))], [.inl (4, 4), .inl (1, 1)], w, 0, 0)) (q := _) rfl rfl ?_
  refine yreach.at (S' := (7, [(1, .inl (1, 1)), (0, .inl (v, v))], [], w, 0, 0)) (q := _) rfl (sx_icmp (o := false) (zcmp xge_of (decide_eq_false (by omega)))) ?_
  refine yreach.at (S' := (10, [(1, .inl (1, 1)), (0, .inl (v, v))], [.inr (.inr (2, 4))], w, 0, 0)) (q := _) rfl rfl ?_
  refine yreach.at (S' := (11, [(1, .inl (1, 1)), (0, .inl (v, v))], [.inl (1, 1), .inr (.inr (2, 4))], w, 0, 0)) (q := _) rfl rfl ?_
  refine yreach.at (S' := (12, [(1, .inl (1, 1)), (0, .inl (v, v))], [.inl (76, 76)], w, 0, 0)) (q := _) rfl (by exact rfl) ?_
  refine yreach.at (S' := (13, [(1, .inl (1, 1)), (0, .inl (v, v))], [.inl (v, v), .inl (76, 76)], w, 0, 0)) (q := _) rfl rfl ?_
  refine yreach.at (S' := (18, [(1, .inl (1, 1)), (0, .inl (v, v))], [], w, 0, 0)) (q := _) rfl (sx_icmp (o := true) (zcmp xcne_of (decide_eq_true (by omega)))) ?_
  refine yreach.at (S' := (21, [(1, .inl (2, 2)), (0, .inl (v, v))], [], w, 0, 0)) (q := _) rfl (by exact rfl) ?_
  refine yreach.at (S' := (2, [(1, .inl (2, 2)), (0, .inl (v, v))], [], w, 0, 0)) (q := _) rfl rfl ?_
  refine yreach.at (S' := (3, [(1, .inl (2, 2)), (0, .inl (v, v))], [.inl (2, 2)], w, 0, 0)) (q := _) rfl rfl ?_
  refine yreach.at (S' := (4, [(1, .inl (2, 2)), (0, .inl (v, v))], [.inl (4, 4), .inl (2, 2)], w, 0, 0)) (q := _) rfl rfl ?_
  refine yreach.at (S' := (7, [(1, .inl (2, 2)), (0, .inl (v, v))], [], w, 0, 0)) (q := _) rfl (sx_icmp (o := false) (zcmp xge_of (decide_eq_false (by omega)))) ?_
  refine yreach.at (S' := (10, [(1, .inl (2, 2)), (0, .inl (v, v))], [.inr (.inr (2, 4))], w, 0, 0)) (q := _) rfl rfl ?_
  refine yreach.at (S' := (11, [(1, .inl (2, 2)), (0, .inl (v, v))], [.inl (2, 2), .inr (.inr (2, 4))], w, 0, 0)) (q := _) rfl rfl ?_
  refine yreach.at (S' := (12, [(1, .inl (2, 2)), (0, .inl (v, v))], [.inl (87, 87)], w, 0, 0)) (q := _) rfl (by exact rfl) ?_
  refine yreach.at (S' := (13, [(1, .inl (2, 2)), (0, .inl (v, v))], [.inl (v, v), .inl (87, 87)], w, 0, 0)) (q := _) rfl rfl ?_
  refine yreach.at (S' := (18, [(1, .inl (2, 2)), (0, .inl (v, v))], [], w, 0, 0)) (q := _) rfl (sx_icmp (o := true) (zcmp xcne_of (decide_eq_true (by omega)))) ?_
  refine yreach.at (S' := (21, [(1, .inl (3, 3)), (0, .inl (v, v))], [], w, 0, 0)) (q := _) rfl (by exact rfl) ?_
  refine yreach.at (S' := (2, [(1, .inl (3, 3)), (0, .inl (v, v))], [], w, 0, 0)) (q := _) rfl rfl ?_
  refine yreach.at (S' := (3, [(1, .inl (3, 3)), (0, .inl (v, v))], [.inl (3, 3)], w, 0, 0)) (q := _) rfl rfl ?_
  refine yreach.at (S' := (4, [(1, .inl (3, 3)), (0, .inl (v, v))], [.inl (4, 4), .inl (3, 3)], w, 0, 0)) (q := _) rfl rfl ?_
  refine yreach.at (S' := (7, [(1, .inl (3, 3)), (0, .inl (v, v))], [], w, 0, 0)) (q := _) rfl (sx_icmp (o := false) (zcmp xge_of (decide_eq_false (by omega)))) ?_
  refine yreach.at (S' := (10, [(1, .inl (3, 3)), (0, .inl (v, v))], [.inr (.inr (2, 4))], w, 0, 0)) (q := _) rfl rfl ?_
  refine yreach.at (S' := (11, [(1, .inl (3, 3)), (0, .inl (v, v))], [.inl (3, 3), .inr (.inr (2, 4))], w, 0, 0)) (q := _) rfl rfl ?_
  refine yreach.at (S' := (12, [(1, .inl (3, 3)), (0, .inl (v, v))], [.inl (69, 69)], w, 0, 0)) (q := _) rfl (by exact rfl) ?_
  refine yreach.at (S' := (13, [(1, .inl (3, 3)), (0, .inl (v, v))], [.inl (v, v), .inl (69, 69)], w, 0, 0)) (q := _) rfl rfl ?_
  refine yreach.at (S' := (18, [(1, .inl (3, 3)), (0, .inl (v, v))], [], w, 0, 0)) (q := _) rfl (sx_icmp (o := true) (zcmp xcne_of (decide_eq_true (by omega)))) ?_
  refine yreach.at (S' := (21, [(1, .inl (4, 4)), (0, .inl (v, v))], [], w, 0, 0)) (q := _) rfl (by exact rfl) ?_
  refine yreach.at (S' := (2, [(1, .inl (4, 4)), (0, .inl (v, v))], [], w, 0, 0)) (q := _) rfl rfl ?_
  refine yreach.at (S' := (3, [(1, .inl (4, 4)), (0, .inl (v, v))], [.inl (4, 4)], w, 0, 0)) (q := _) rfl rfl ?_
  refine yreach.at (S' := (4, [(1, .inl (4, 4)), (0, .inl (v, v))], [.inl (4, 4), .inl (4, 4)], w, 0, 0)) (q := _) rfl rfl ?_
  refine yreach.at (S' := (24, [(1, .inl (4, 4)), (0, .inl (v, v))], [], w, 0, 0)) (q := _) rfl (sx_icmp (o := true) (zcmp xge_of (decide_eq_true (by omega)))) ?_
  refine yreach.at (S' := (26, [(1, .inl (4, 4)), (0, .inl (v, v))], [.inl (-9, -9)], w, 0, 0)) (q := _) rfl rfl ?_
  exact yreach.ret (q := (some (.inl (-9, -9)), w, 0, 0)) ((xstep_at rfl).trans rfl) rfl
theorem zc_dig_loop {w : XW} {q p : Nat} {L : List Int} {es : List XV} (hq : w[q]? = some (.inl (4, [.inr (.inr (1, p)), .inl ((L.length : Int), (L.length : Int))]))) (hp : w[p]? = some (.inr (0, es))) (he : ∀ (j : Nat) (v : Int), L[j]? = some v → es[j]? = some (.inl (v, v))) (h40 : L.length ≤ 40) {a : Nat} (ha : a ≤ L.length) : ∀ m c : Nat, m + c = 3 → a + c ≤ L.length → yreach (ySt sc xm106) (yJm l D tA ex sc xm106) (fun r => r = (some (.inl (((a + c + zDg L m (a + c) : Nat) : Int), ((a + c + zDg L m (a + c) : Nat) : Int))), w, 0, 0)) (2, [(2, .inl (((a + c : Nat) : Int), ((a + c : Nat) : Int))), (0, .inr (.inr (1, q))), (1, .inl (((a : Nat) : Int), ((a : Nat) : Int)))], [], w, 0, 0)
  | 0, c, e, hc => by
    have e : c = 3 := by omega
    subst e
    by_cases h : L.length ≤ a + 3
    · refine yreach.at (S' := (3, [(2, .inl (((a + 3 : Nat) : Int), ((a + 3 : Nat) : Int))), (0, .inr (.inr (1, q))), (1, .inl (((a : Nat) : Int), ((a : Nat) : Int)))], [.inl (((a + 3 : Nat) : Int), ((a + 3 : Nat) : Int))], w, 0, 0)) (q := _) rfl rfl ?_
      refine yreach.at (S' := (4, [(2, .inl (((a + 3 : Nat) : Int), ((a + 3 : Nat) : Int))), (0, .inr (.inr (1, q))), (1, .inl (((a : Nat) : Int), ((a : Nat) : Int)))], [.inr (.inr (1, q)), .inl (((a + 3 : Nat) : Int), ((a + 3 : Nat) : Int))], w, 0, 0)) (q := _) rfl rfl ?_
      refine yreach.at (S' := (7, [(2, .inl (((a + 3 : Nat) : Int), ((a + 3 : Nat) : Int))), (0, .inr (.inr (1, q))), (1, .inl (((a : Nat) : Int), ((a : Nat) : Int)))], [.inl ((L.length : Int), (L.length : Int)), .inl (((a + 3 : Nat) : Int), ((a + 3 : Nat) : Int))], w, 0, 0)) (q := _) rfl (sx_get hq rfl) ?_
      refine yreach.at (S' := (45, [(2, .inl (((a + 3 : Nat) : Int), ((a + 3 : Nat) : Int))), (0, .inr (.inr (1, q))), (1, .inl (((a : Nat) : Int), ((a : Nat) : Int)))], [], w, 0, 0)) (q := _) rfl (sx_icmp (o := true) (zcmp xge_of (decide_eq_true (by omega)))) ?_
      refine yreach.at (S' := (46, [(2, .inl (((a + 3 : Nat) : Int), ((a + 3 : Nat) : Int))), (0, .inr (.inr (1, q))), (1, .inl (((a : Nat) : Int), ((a : Nat) : Int)))], [.inl (((a + 3 : Nat) : Int), ((a + 3 : Nat) : Int))], w, 0, 0)) (q := _) rfl rfl ?_
      exact yreach.ret (q := (some (.inl (((a + 3 : Nat) : Int), ((a + 3 : Nat) : Int))), w, 0, 0)) ((xstep_at rfl).trans rfl) rfl
    · refine yreach.at (S' := (3, [(2, .inl (((a + 3 : Nat) : Int), ((a + 3 : Nat) : Int))), (0, .inr (.inr (1, q))), (1, .inl (((a : Nat) : Int), ((a : Nat) : Int)))], [.inl (((a + 3 : Nat) : Int), ((a + 3 : Nat) : Int))], w, 0, 0)) (q := _) rfl rfl ?_
      refine yreach.at (S' := (4, [(2, .inl (((a + 3 : Nat) : Int), ((a + 3 : Nat) : Int))), (0, .inr (.inr (1, q))), (1, .inl (((a : Nat) : Int), ((a : Nat) : Int)))], [.inr (.inr (1, q)), .inl (((a + 3 : Nat) : Int), ((a + 3 : Nat) : Int))], w, 0, 0)) (q := _) rfl rfl ?_
      refine yreach.at (S' := (7, [(2, .inl (((a + 3 : Nat) : Int), ((a + 3 : Nat) : Int))), (0, .inr (.inr (1, q))), (1, .inl (((a : Nat) : Int), ((a : Nat) : Int)))], [.inl ((L.length : Int), (L.length : Int)), .inl (((a + 3 : Nat) : Int), ((a + 3 : Nat) : Int))], w, 0, 0)) (q := _) rfl (sx_get hq rfl) ?_
      refine yreach.at (S' := (10, [(2, .inl (((a + 3 : Nat) : Int), ((a + 3 : Nat) : Int))), (0, .inr (.inr (1, q))), (1, .inl (((a : Nat) : Int), ((a : Nat) : Int)))], [], w, 0, 0)) (q := _) rfl (sx_icmp (o := false) (zcmp xge_of (decide_eq_false (by omega)))) ?_
      refine yreach.at (S' := (11, [(2, .inl (((a + 3 : Nat) : Int), ((a + 3 : Nat) : Int))), (0, .inr (.inr (1, q))), (1, .inl (((a : Nat) : Int), ((a : Nat) : Int)))], [.inl (((a + 3 : Nat) : Int), ((a + 3 : Nat) : Int))], w, 0, 0)) (q := _) rfl rfl ?_
      refine yreach.at (S' := (12, [(2, .inl (((a + 3 : Nat) : Int), ((a + 3 : Nat) : Int))), (0, .inr (.inr (1, q))), (1, .inl (((a : Nat) : Int), ((a : Nat) : Int)))], [.inl (((a : Nat) : Int), ((a : Nat) : Int)), .inl (((a + 3 : Nat) : Int), ((a + 3 : Nat) : Int))], w, 0, 0)) (q := _) rfl rfl ?_
      refine yreach.at (S' := (13, [(2, .inl (((a + 3 : Nat) : Int), ((a + 3 : Nat) : Int))), (0, .inr (.inr (1, q))), (1, .inl (((a : Nat) : Int), ((a : Nat) : Int)))], [.inl (3, 3), .inl (((a : Nat) : Int), ((a : Nat) : Int)), .inl (((a + 3 : Nat) : Int), ((a + 3 : Nat) : Int))], w, 0, 0)) (q := _) rfl rfl ?_
      refine yreach.at (S' := (14, [(2, .inl (((a + 3 : Nat) : Int), ((a + 3 : Nat) : Int))), (0, .inr (.inr (1, q))), (1, .inl (((a : Nat) : Int), ((a : Nat) : Int)))], [.inl (((a + 3 : Nat) : Int), ((a + 3 : Nat) : Int)), .inl (((a + 3 : Nat) : Int), ((a + 3 : Nat) : Int))], w, 0, 0)) (q := _) rfl (sx_bin rfl (zadd (by omega) (by omega))) ?_
      refine yreach.at (S' := (45, [(2, .inl (((a + 3 : Nat) : Int), ((a + 3 : Nat) : Int))), (0, .inr (.inr (1, q))), (1, .inl (((a : Nat) : Int), ((a : Nat) : Int)))], [], w, 0, 0)) (q := _) rfl (sx_icmp (o := true) (zcmp xge_of (decide_eq_true (by omega)))) ?_
      refine yreach.at (S' := (46, [(2, .inl (((a + 3 : Nat) : Int), ((a + 3 : Nat) : Int))), (0, .inr (.inr (1, q))), (1, .inl (((a : Nat) : Int), ((a : Nat) : Int)))], [.inl (((a + 3 : Nat) : Int), ((a + 3 : Nat) : Int))], w, 0, 0)) (q := _) rfl rfl ?_
      exact yreach.ret (q := (some (.inl (((a + 3 : Nat) : Int), ((a + 3 : Nat) : Int))), w, 0, 0)) ((xstep_at rfl).trans rfl) rfl
  | m + 1, c, e, hc => by
    cases h : L[a + c]? with
    | none =>
      have h1 := List.getElem?_eq_none_iff.mp h
      rw [zDg_no h]
      refine yreach.at (S' := (3, [(2, .inl (((a + c : Nat) : Int), ((a + c : Nat) : Int))), (0, .inr (.inr (1, q))), (1, .inl (((a : Nat) : Int), ((a : Nat) : Int)))], [.inl (((a + c : Nat) : Int), ((a + c : Nat) : Int))], w, 0, 0)) (q := _) rfl rfl ?_
      refine yreach.at (S' := (4, [(2, .inl (((a + c : Nat) : Int), ((a + c : Nat) : Int))), (0, .inr (.inr (1, q))), (1, .inl (((a : Nat) : Int), ((a : Nat) : Int)))], [.inr (.inr (1, q)), .inl (((a + c : Nat) : Int), ((a + c : Nat) : Int))], w, 0, 0)) (q := _) rfl rfl ?_
      refine yreach.at (S' := (7, [(2, .inl (((a + c : Nat) : Int), ((a + c : Nat) : Int))), (0, .inr (.inr (1, q))), (1, .inl (((a : Nat) : Int), ((a : Nat) : Int)))], [.inl ((L.length : Int), (L.length : Int)), .inl (((a + c : Nat) : Int), ((a + c : Nat) : Int))], w, 0, 0)) (q := _) rfl (sx_get hq rfl) ?_
      refine yreach.at (S' := (45, [(2, .inl (((a + c : Nat) : Int), ((a + c : Nat) : Int))), (0, .inr (.inr (1, q))), (1, .inl (((a : Nat) : Int), ((a : Nat) : Int)))], [], w, 0, 0)) (q := _) rfl (sx_icmp (o := true) (zcmp xge_of (decide_eq_true (by omega)))) ?_
      refine yreach.at (S' := (46, [(2, .inl (((a + c : Nat) : Int), ((a + c : Nat) : Int))), (0, .inr (.inr (1, q))), (1, .inl (((a : Nat) : Int), ((a : Nat) : Int)))], [.inl (((a + c : Nat) : Int), ((a + c : Nat) : Int))], w, 0, 0)) (q := _) rfl rfl ?_
      exact yreach.ret (q := (some (.inl (((a + c : Nat) : Int), ((a + c : Nat) : Int))), w, 0, 0)) ((xstep_at rfl).trans rfl) rfl
    | some v =>
      have h1 := (List.getElem?_eq_some_iff.mp h).1
      have h2 := he _ _ h
      by_cases hv : 48 ≤ v ∧ v ≤ 57
      · rw [zDg_d h hv]
        refine yreach.at (S' := (3, [(2, .inl (((a + c : Nat) : Int), ((a + c : Nat) : Int))), (0, .inr (.inr (1, q))), (1, .inl (((a : Nat) : Int), ((a : Nat) : Int)))], [.inl (((a + c : Nat) : Int), ((a + c : Nat) : Int))], w, 0, 0)) (q := _) rfl rfl ?_
        refine yreach.at (S' := (4, [(2, .inl (((a + c : Nat) : Int), ((a + c : Nat) : Int))), (0, .inr (.inr (1, q))), (1, .inl (((a : Nat) : Int), ((a : Nat) : Int)))], [.inr (.inr (1, q)), .inl (((a + c : Nat) : Int), ((a + c : Nat) : Int))], w, 0, 0)) (q := _) rfl rfl ?_
        refine yreach.at (S' := (7, [(2, .inl (((a + c : Nat) : Int), ((a + c : Nat) : Int))), (0, .inr (.inr (1, q))), (1, .inl (((a : Nat) : Int), ((a : Nat) : Int)))], [.inl ((L.length : Int), (L.length : Int)), .inl (((a + c : Nat) : Int), ((a + c : Nat) : Int))], w, 0, 0)) (q := _) rfl (sx_get hq rfl) ?_
        refine yreach.at (S' := (10, [(2, .inl (((a + c : Nat) : Int), ((a + c : Nat) : Int))), (0, .inr (.inr (1, q))), (1, .inl (((a : Nat) : Int), ((a : Nat) : Int)))], [], w, 0, 0)) (q := _) rfl (sx_icmp (o := false) (zcmp xge_of (decide_eq_false (by omega)))) ?_
        refine yreach.at (S' := (11, [(2, .inl (((a + c : Nat) : Int), ((a + c : Nat) : Int))), (0, .inr (.inr (1, q))), (1, .inl (((a : Nat) : Int), ((a : Nat) : Int)))], [.inl (((a + c : Nat) : Int), ((a + c : Nat) : Int))], w, 0, 0)) (q := _) rfl rfl ?_
        refine yreach.at (S' := (12, [(2, .inl (((a + c : Nat) : Int), ((a + c : Nat) : Int))), (0, .inr (.inr (1, q))), (1, .inl (((a : Nat) : Int), ((a : Nat) : Int)))], [.inl (((a : Nat) : Int), ((a : Nat) : Int)), .inl (((a + c : Nat) : Int), ((a + c : Nat) : Int))], w, 0, 0)) (q := _) rfl rfl ?_
        refine yreach.at (S' := (13, [(2, .inl (((a + c : Nat) : Int), ((a + c : Nat) : Int))), (0, .inr (.inr (1, q))), (1, .inl (((a : Nat) : Int), ((a : Nat) : Int)))], [.inl (3, 3), .inl (((a : Nat) : Int), ((a : Nat) : Int)), .inl (((a + c : Nat) : Int), ((a + c : Nat) : Int))], w, 0, 0)) (q := _) rfl rfl ?_
        refine yreach.at (S' := (14, [(2, .inl (((a + c : Nat) : Int), ((a + c : Nat) : Int))), (0, .inr (.inr (1, q))), (1, .inl (((a : Nat) : Int), ((a : Nat) : Int)))], [.inl (((a + 3 : Nat) : Int), ((a + 3 : Nat) : Int)), .inl (((a + c : Nat) : Int), ((a + c : Nat) : Int))], w, 0, 0)) (q := _) rfl (sx_bin rfl (zadd (by omega) (by omega))) ?_
        refine yreach.at (S' := (17, [(2, .inl (((a + c : Nat) : Int), ((a + c : Nat) : Int))), (0, .inr (.inr (1, q))), (1, .inl (((a : Nat) : Int), ((a : Nat) : Int)))], [], w, 0, 0)) (q := _) rfl (sx_icmp (o := false) (zcmp xge_of (decide_eq_false (by omega)))) ?_
        refine yreach.at (S' := (18, [(2, .inl (((a + c : Nat) : Int), ((a + c : Nat) : Int))), (0, .inr (.inr (1, q))), (1, .inl (((a : Nat) : Int), ((a : Nat) : Int)))], [.inr (.inr (1, q))], w, 0, 0)) (q := _) rfl rfl ?_
        refine yreach.at (S' := (21, [(2, .inl (((a + c : Nat) : Int), ((a + c : Nat) : Int))), (0, .inr (.inr (1, q))), (1, .inl (((a : Nat) : Int), ((a : Nat) : Int)))], [.inr (.inr (1, p))], w, 0, 0)) (q := _) rfl (sx_get hq rfl) ?_
        refine yreach.at (S' := (22, [(2, .inl (((a + c : Nat) : Int), ((a + c : Nat) : Int))), (0, .inr (.inr (1, q))), (1, .inl (((a : Nat) : Int), ((a : Nat) : Int)))], [.inl (((a + c : Nat) : Int), ((a + c : Nat) : Int)), .inr (.inr (1, p))], w, 0, 0)) (q := _) rfl rfl ?_
        refine yreach.at (S' := (23, [(2, .inl (((a + c : Nat) : Int), ((a + c : Nat) : Int))), (0, .inr (.inr (1, q))), (1, .inl (((a : Nat) : Int), ((a : Nat) : Int)))], [.inl (v, v)], w, 0, 0)) (q := _) rfl (sx_iald hp (zread h2)) ?_
        refine yreach.at (S' := (25, [(2, .inl (((a + c : Nat) : Int), ((a + c : Nat) : Int))), (0, .inr (.inr (1, q))), (1, .inl (((a : Nat) : Int), ((a : Nat) : Int)))], [.inl (48, 48), .inl (v, v)], w, 0, 0)) (q := _) rfl rfl ?_
        refine yreach.at (S' := (28, [(2, .inl (((a + c : Nat) : Int), ((a + c : Nat) : Int))), (0, .inr (.inr (1, q))), (1, .inl (((a : Nat) : Int), ((a : Nat) : Int)))], [], w, 0, 0)) (q := _) rfl (sx_icmp (o := false) (zcmp (show xcmp .lt _ _ = _ from xlt_of) (decide_eq_false (by omega)))) ?_
        refine yreach.at (S' := (29, [(2, .inl (((a + c : Nat) : Int), ((a + c : Nat) : Int))), (0, .inr (.inr (1, q))), (1, .inl (((a : Nat) : Int), ((a : Nat) : Int)))], [.inr (.inr (1, q))], w, 0, 0)) (q := _) rfl rfl ?_
        refine yreach.at (S' := (32, [(2, .inl (((a + c : Nat) : Int), ((a + c : Nat) : Int))), (0, .inr (.inr (1, q))), (1, .inl (((a : Nat) : Int), ((a : Nat) : Int)))], [.inr (.inr (1, p))], w, 0, 0)) (q := _) rfl (sx_get hq rfl) ?_
        refine yreach.at (S' := (33, [(2, .inl (((a + c : Nat) : Int), ((a + c : Nat) : Int))), (0, .inr (.inr (1, q))), (1, .inl (((a : Nat) : Int), ((a : Nat) : Int)))], [.inl (((a + c : Nat) : Int), ((a + c : Nat) : Int)), .inr (.inr (1, p))], w, 0, 0)) (q := _) rfl rfl ?_
        refine yreach.at (S' := (34, [(2, .inl (((a + c : Nat) : Int), ((a + c : Nat) : Int))), (0, .inr (.inr (1, q))), (1, .inl (((a : Nat) : Int), ((a : Nat) : Int)))], [.inl (v, v)], w, 0, 0)) (q := _) rfl (sx_iald hp (zread h2)) ?_
        refine yreach.at (S' := (36, [(2, .inl (((a + c : Nat) : Int), ((a + c : Nat) : Int))), (0, .inr (.inr (1, q))), (1, .inl (((a : Nat) : Int), ((a : Nat) : Int)))], [.inl (57, 57), .inl (v, v)], w, 0, 0)) (q := _) rfl rfl ?_
        refine yreach.at (S' := (39, [(2, .inl (((a + c : Nat) : Int), ((a + c : Nat) : Int))), (0, .inr (.inr (1, q))), (1, .inl (((a : Nat) : Int), ((a : Nat) : Int)))], [], w, 0, 0)) (q := _) rfl (sx_icmp (o := false) (zcmp xgt_of (decide_eq_false (by omega)))) ?_
        refine yreach.at (S' := (42, [(2, .inl ((((a + c : Nat) : Int) + 1), (((a + c : Nat) : Int) + 1))), (0, .inr (.inr (1, q))), (1, .inl (((a : Nat) : Int), ((a : Nat) : Int)))], [], w, 0, 0)) (q := _) rfl (sx_iinc (z := 1) rfl (Nat.le_of_ble_eq_true rfl) (by omega)) ?_
        refine yreach.at (S' := (2, [(2, .inl ((((a + c : Nat) : Int) + 1), (((a + c : Nat) : Int) + 1))), (0, .inr (.inr (1, q))), (1, .inl (((a : Nat) : Int), ((a : Nat) : Int)))], [], w, 0, 0)) (q := _) rfl rfl ?_
        have ih := zc_dig_loop hq hp he h40 ha m (c + 1) (by omega) (by omega)
        rw [show a + (c + 1) + zDg L m (a + (c + 1)) = a + c + (zDg L m (a + c + 1) + 1) by rw [show a + (c + 1) = a + c + 1 by omega]; omega] at ih
        exact ih
      · rw [zDg_nd h hv]
        by_cases h3 : v < 48
        · refine yreach.at (S' := (3, [(2, .inl (((a + c : Nat) : Int), ((a + c : Nat) : Int))), (0, .inr (.inr (1, q))), (1, .inl (((a : Nat) : Int), ((a : Nat) : Int)))], [.inl (((a + c : Nat) : Int), ((a + c : Nat) : Int))], w, 0, 0)) (q := _) rfl rfl ?_
          refine yreach.at (S' := (4, [(2, .inl (((a + c : Nat) : Int), ((a + c : Nat) : Int))), (0, .inr (.inr (1, q))), (1, .inl (((a : Nat) : Int), ((a : Nat) : Int)))], [.inr (.inr (1, q)), .inl (((a + c : Nat) : Int), ((a + c : Nat) : Int))], w, 0, 0)) (q := _) rfl rfl ?_
          refine yreach.at (S' := (7, [(2, .inl (((a + c : Nat) : Int), ((a + c : Nat) : Int))), (0, .inr (.inr (1, q))), (1, .inl (((a : Nat) : Int), ((a : Nat) : Int)))], [.inl ((L.length : Int), (L.length : Int)), .inl (((a + c : Nat) : Int), ((a + c : Nat) : Int))], w, 0, 0)) (q := _) rfl (sx_get hq rfl) ?_
          refine yreach.at (S' := (10, [(2, .inl (((a + c : Nat) : Int), ((a + c : Nat) : Int))), (0, .inr (.inr (1, q))), (1, .inl (((a : Nat) : Int), ((a : Nat) : Int)))], [], w, 0, 0)) (q := _) rfl (sx_icmp (o := false) (zcmp xge_of (decide_eq_false (by omega)))) ?_
          refine yreach.at (S' := (11, [(2, .inl (((a + c : Nat) : Int), ((a + c : Nat) : Int))), (0, .inr (.inr (1, q))), (1, .inl (((a : Nat) : Int), ((a : Nat) : Int)))], [.inl (((a + c : Nat) : Int), ((a + c : Nat) : Int))], w, 0, 0)) (q := _) rfl rfl ?_
          refine yreach.at (S' := (12, [(2, .inl (((a + c : Nat) : Int), ((a + c : Nat) : Int))), (0, .inr (.inr (1, q))), (1, .inl (((a : Nat) : Int), ((a : Nat) : Int)))], [.inl (((a : Nat) : Int), ((a : Nat) : Int)), .inl (((a + c : Nat) : Int), ((a + c : Nat) : Int))], w, 0, 0)) (q := _) rfl rfl ?_
          refine yreach.at (S' := (13, [(2, .inl (((a + c : Nat) : Int), ((a + c : Nat) : Int))), (0, .inr (.inr (1, q))), (1, .inl (((a : Nat) : Int), ((a : Nat) : Int)))], [.inl (3, 3), .inl (((a : Nat) : Int), ((a : Nat) : Int)), .inl (((a + c : Nat) : Int), ((a + c : Nat) : Int))], w, 0, 0)) (q := _) rfl rfl ?_
          refine yreach.at (S' := (14, [(2, .inl (((a + c : Nat) : Int), ((a + c : Nat) : Int))), (0, .inr (.inr (1, q))), (1, .inl (((a : Nat) : Int), ((a : Nat) : Int)))], [.inl (((a + 3 : Nat) : Int), ((a + 3 : Nat) : Int)), .inl (((a + c : Nat) : Int), ((a + c : Nat) : Int))], w, 0, 0)) (q := _) rfl (sx_bin rfl (zadd (by omega) (by omega))) ?_
          refine yreach.at (S' := (17, [(2, .inl (((a + c : Nat) : Int), ((a + c : Nat) : Int))), (0, .inr (.inr (1, q))), (1, .inl (((a : Nat) : Int), ((a : Nat) : Int)))], [], w, 0, 0)) (q := _) rfl (sx_icmp (o := false) (zcmp xge_of (decide_eq_false (by omega)))) ?_
          refine yreach.at (S' := (18, [(2, .inl (((a + c : Nat) : Int), ((a + c : Nat) : Int))), (0, .inr (.inr (1, q))), (1, .inl (((a : Nat) : Int), ((a : Nat) : Int)))], [.inr (.inr (1, q))], w, 0, 0)) (q := _) rfl rfl ?_
          refine yreach.at (S' := (21, [(2, .inl (((a + c : Nat) : Int), ((a + c : Nat) : Int))), (0, .inr (.inr (1, q))), (1, .inl (((a : Nat) : Int), ((a : Nat) : Int)))], [.inr (.inr (1, p))], w, 0, 0)) (q := _) rfl (sx_get hq rfl) ?_
          refine yreach.at (S' := (22, [(2, .inl (((a + c : Nat) : Int), ((a + c : Nat) : Int))), (0, .inr (.inr (1, q))), (1, .inl (((a : Nat) : Int), ((a : Nat) : Int)))], [.inl (((a + c : Nat) : Int), ((a + c : Nat) : Int)), .inr (.inr (1, p))], w, 0, 0)) (q := _) rfl rfl ?_
          refine yreach.at (S' := (23, [(2, .inl (((a + c : Nat) : Int), ((a + c : Nat) : Int))), (0, .inr (.inr (1, q))), (1, .inl (((a : Nat) : Int), ((a : Nat) : Int)))], [.inl (v, v)], w, 0, 0)) (q := _) rfl (sx_iald hp (zread h2)) ?_
          refine yreach.at (S' := (25, [(2, .inl (((a + c : Nat) : Int), ((a + c : Nat) : Int))), (0, .inr (.inr (1, q))), (1, .inl (((a : Nat) : Int), ((a : Nat) : Int)))], [.inl (48, 48), .inl (v, v)], w, 0, 0)) (q := _) rfl rfl ?_
          refine yreach.at (S' := (45, [(2, .inl (((a + c : Nat) : Int), ((a + c : Nat) : Int))), (0, .inr (.inr (1, q))), (1, .inl (((a : Nat) : Int), ((a : Nat) : Int)))], [], w, 0, 0)) (q := _) rfl (sx_icmp (o := true) (zcmp (show xcmp .lt _ _ = _ from xlt_of) (decide_eq_true (by omega)))) ?_
          refine yreach.at (S' := (46, [(2, .inl (((a + c : Nat) : Int), ((a + c : Nat) : Int))), (0, .inr (.inr (1, q))), (1, .inl (((a : Nat) : Int), ((a : Nat) : Int)))], [.inl (((a + c : Nat) : Int), ((a + c : Nat) : Int))], w, 0, 0)) (q := _) rfl rfl ?_
          exact yreach.ret (q := (some (.inl (((a + c : Nat) : Int), ((a + c : Nat) : Int))), w, 0, 0)) ((xstep_at rfl).trans rfl) rfl
        · refine yreach.at (S' := (3, [(2, .inl (((a + c : Nat) : Int), ((a + c : Nat) : Int))), (0, .inr (.inr (1, q))), (1, .inl (((a : Nat) : Int), ((a : Nat) : Int)))], [.inl (((a + c : Nat) : Int), ((a + c : Nat) : Int))], w, 0, 0)) (q := _) rfl rfl ?_
          refine yreach.at (S' := (4, [(2, .inl (((a + c : Nat) : Int), ((a + c : Nat) : Int))), (0, .inr (.inr (1, q))), (1, .inl (((a : Nat) : Int), ((a : Nat) : Int)))], [.inr (.inr (1, q)), .inl (((a + c : Nat) : Int), ((a + c : Nat) : Int))], w, 0, 0)) (q := _) rfl rfl ?_
          refine yreach.at (S' := (7, [(2, .inl (((a + c : Nat) : Int), ((a + c : Nat) : Int))), (0, .inr (.inr (1, q))), (1, .inl (((a : Nat) : Int), ((a : Nat) : Int)))], [.inl ((L.length : Int), (L.length : Int)), .inl (((a + c : Nat) : Int), ((a + c : Nat) : Int))], w, 0, 0)) (q := _) rfl (sx_get hq rfl) ?_
          refine yreach.at (S' := (10, [(2, .inl (((a + c : Nat) : Int), ((a + c : Nat) : Int))), (0, .inr (.inr (1, q))), (1, .inl (((a : Nat) : Int), ((a : Nat) : Int)))], [], w, 0, 0)) (q := _) rfl (sx_icmp (o := false) (zcmp xge_of (decide_eq_false (by omega)))) ?_
          refine yreach.at (S' := (11, [(2, .inl (((a + c : Nat) : Int), ((a + c : Nat) : Int))), (0, .inr (.inr (1, q))), (1, .inl (((a : Nat) : Int), ((a : Nat) : Int)))], [.inl (((a + c : Nat) : Int), ((a + c : Nat) : Int))], w, 0, 0)) (q := _) rfl rfl ?_
          refine yreach.at (S' := (12, [(2, .inl (((a + c : Nat) : Int), ((a + c : Nat) : Int))), (0, .inr (.inr (1, q))), (1, .inl (((a : Nat) : Int), ((a : Nat) : Int)))], [.inl (((a : Nat) : Int), ((a : Nat) : Int)), .inl (((a + c : Nat) : Int), ((a + c : Nat) : Int))], w, 0, 0)) (q := _) rfl rfl ?_
          refine yreach.at (S' := (13, [(2, .inl (((a + c : Nat) : Int), ((a + c : Nat) : Int))), (0, .inr (.inr (1, q))), (1, .inl (((a : Nat) : Int), ((a : Nat) : Int)))], [.inl (3, 3), .inl (((a : Nat) : Int), ((a : Nat) : Int)), .inl (((a + c : Nat) : Int), ((a + c : Nat) : Int))], w, 0, 0)) (q := _) rfl rfl ?_
          refine yreach.at (S' := (14, [(2, .inl (((a + c : Nat) : Int), ((a + c : Nat) : Int))), (0, .inr (.inr (1, q))), (1, .inl (((a : Nat) : Int), ((a : Nat) : Int)))], [.inl (((a + 3 : Nat) : Int), ((a + 3 : Nat) : Int)), .inl (((a + c : Nat) : Int), ((a + c : Nat) : Int))], w, 0, 0)) (q := _) rfl (sx_bin rfl (zadd (by omega) (by omega))) ?_
          refine yreach.at (S' := (17, [(2, .inl (((a + c : Nat) : Int), ((a + c : Nat) : Int))), (0, .inr (.inr (1, q))), (1, .inl (((a : Nat) : Int), ((a : Nat) : Int)))], [], w, 0, 0)) (q := _) rfl (sx_icmp (o := false) (zcmp xge_of (decide_eq_false (by omega)))) ?_
          refine yreach.at (S' := (18, [(2, .inl (((a + c : Nat) : Int), ((a + c : Nat) : Int))), (0, .inr (.inr (1, q))), (1, .inl (((a : Nat) : Int), ((a : Nat) : Int)))], [.inr (.inr (1, q))], w, 0, 0)) (q := _) rfl rfl ?_
          refine yreach.at (S' := (21, [(2, .inl (((a + c : Nat) : Int), ((a + c : Nat) : Int))), (0, .inr (.inr (1, q))), (1, .inl (((a : Nat) : Int), ((a : Nat) : Int)))], [.inr (.inr (1, p))], w, 0, 0)) (q := _) rfl (sx_get hq rfl) ?_
          refine yreach.at (S' := (22, [(2, .inl (((a + c : Nat) : Int), ((a + c : Nat) : Int))), (0, .inr (.inr (1, q))), (1, .inl (((a : Nat) : Int), ((a : Nat) : Int)))], [.inl (((a + c : Nat) : Int), ((a + c : Nat) : Int)), .inr (.inr (1, p))], w, 0, 0)) (q := _) rfl rfl ?_
          refine yreach.at (S' := (23, [(2, .inl (((a + c : Nat) : Int), ((a + c : Nat) : Int))), (0, .inr (.inr (1, q))), (1, .inl (((a : Nat) : Int), ((a : Nat) : Int)))], [.inl (v, v)], w, 0, 0)) (q := _) rfl (sx_iald hp (zread h2)) ?_
          refine yreach.at (S' := (25, [(2, .inl (((a + c : Nat) : Int), ((a + c : Nat) : Int))), (0, .inr (.inr (1, q))), (1, .inl (((a : Nat) : Int), ((a : Nat) : Int)))], [.inl (48, 48), .inl (v, v)], w, 0, 0)) (q := _) rfl rfl ?_
          refine yreach.at (S' := (28, [(2, .inl (((a + c : Nat) : Int), ((a + c : Nat) : Int))), (0, .inr (.inr (1, q))), (1, .inl (((a : Nat) : Int), ((a : Nat) : Int)))], [], w, 0, 0)) (q := _) rfl (sx_icmp (o := false) (zcmp (show xcmp .lt _ _ = _ from xlt_of) (decide_eq_false (by omega)))) ?_
          refine yreach.at (S' := (29, [(2, .inl (((a + c : Nat) : Int), ((a + c : Nat) : Int))), (0, .inr (.inr (1, q))), (1, .inl (((a : Nat) : Int), ((a : Nat) : Int)))], [.inr (.inr (1, q))], w, 0, 0)) (q := _) rfl rfl ?_
          refine yreach.at (S' := (32, [(2, .inl (((a + c : Nat) : Int), ((a + c : Nat) : Int))), (0, .inr (.inr (1, q))), (1, .inl (((a : Nat) : Int), ((a : Nat) : Int)))], [.inr (.inr (1, p))], w, 0, 0)) (q := _) rfl (sx_get hq rfl) ?_
          refine yreach.at (S' := (33, [(2, .inl (((a + c : Nat) : Int), ((a + c : Nat) : Int))), (0, .inr (.inr (1, q))), (1, .inl (((a : Nat) : Int), ((a : Nat) : Int)))], [.inl (((a + c : Nat) : Int), ((a + c : Nat) : Int)), .inr (.inr (1, p))], w, 0, 0)) (q := _) rfl rfl ?_
          refine yreach.at (S' := (34, [(2, .inl (((a + c : Nat) : Int), ((a + c : Nat) : Int))), (0, .inr (.inr (1, q))), (1, .inl (((a : Nat) : Int), ((a : Nat) : Int)))], [.inl (v, v)], w, 0, 0)) (q := _) rfl (sx_iald hp (zread h2)) ?_
          refine yreach.at (S' := (36, [(2, .inl (((a + c : Nat) : Int), ((a + c : Nat) : Int))), (0, .inr (.inr (1, q))), (1, .inl (((a : Nat) : Int), ((a : Nat) : Int)))], [.inl (57, 57), .inl (v, v)], w, 0, 0)) (q := _) rfl rfl ?_
          refine yreach.at (S' := (45, [(2, .inl (((a + c : Nat) : Int), ((a + c : Nat) : Int))), (0, .inr (.inr (1, q))), (1, .inl (((a : Nat) : Int), ((a : Nat) : Int)))], [], w, 0, 0)) (q := _) rfl (sx_icmp (o := true) (zcmp xgt_of (decide_eq_true (by omega)))) ?_
          refine yreach.at (S' := (46, [(2, .inl (((a + c : Nat) : Int), ((a + c : Nat) : Int))), (0, .inr (.inr (1, q))), (1, .inl (((a : Nat) : Int), ((a : Nat) : Int)))], [.inl (((a + c : Nat) : Int), ((a + c : Nat) : Int))], w, 0, 0)) (q := _) rfl rfl ?_
          exact yreach.ret (q := (some (.inl (((a + c : Nat) : Int), ((a + c : Nat) : Int))), w, 0, 0)) ((xstep_at rfl).trans rfl) rfl
theorem zc_dig {w : XW} {q p : Nat} {L : List Int} {es : List XV} (hq : w[q]? = some (.inl (4, [.inr (.inr (1, p)), .inl ((L.length : Int), (L.length : Int))]))) (hp : w[p]? = some (.inr (0, es))) (he : ∀ (j : Nat) (v : Int), L[j]? = some v → es[j]? = some (.inl (v, v))) (h40 : L.length ≤ 40) {a : Nat} (ha : a ≤ L.length) : XMet l D vwCl (tysX tA) tA ex (xSTX ++ [sc]) xSV xNW xNF xTs xm106 [.inr (.inr (1, q)), .inl ((a : Int), (a : Int))] w (some (.inl (((a + zDg L 3 a : Nat) : Int), ((a + zDg L 3 a : Nat) : Int)))) w := by
  refine zex (j := 106) rfl (Nat.le_of_ble_eq_true rfl) ?_
  refine yreach.at (S' := (1, [(0, .inr (.inr (1, q))), (1, .inl (((a : Nat) : Int), ((a : Nat) : Int)))], [.inl (((a : Nat) : Int), ((a : Nat) : Int))], w, 0, 0)) (q := _) rfl rfl ?_
  refine yreach.at (S' := (2, [(2, .inl (((a : Nat) : Int), ((a : Nat) : Int))), (0, .inr (.inr (1, q))), (1, .inl (((a : Nat) : Int), ((a : Nat) : Int)))], [], w, 0, 0)) (q := _) rfl rfl ?_
  exact zc_dig_loop hq hp he h40 ha 3 0 rfl ha
theorem zc_num_loop {w : XW} {q p : Nat} {L : List Int} {es : List XV} (hq : w[q]? = some (.inl (4, [.inr (.inr (1, p)), .inl ((L.length : Int), (L.length : Int))]))) (hp : w[p]? = some (.inr (0, es))) (he : ∀ (j : Nat) (v : Int), L[j]? = some v → es[j]? = some (.inl (v, v))) (h40 : L.length ≤ 40) {a d : Nat} (hd : d ≤ 3) (hg : ∀ j, j < d → ∃ v, L[a + j]? = some v ∧ 48 ≤ v ∧ v ≤ 57) : ∀ m c : Nat, c + m = d → yreach (ySt sc xm107) (yJm l D tA ex sc xm107) (fun r => r = (some (.inl (zNm L a d, zNm L a d)), w, 0, 0)) (5, [(4, .inl (((a + c : Nat) : Int), ((a + c : Nat) : Int))), (3, .inl (zNm L a c, zNm L a c)), (0, .inr (.inr (1, q))), (1, .inl (((a : Nat) : Int), ((a : Nat) : Int))), (2, .inl (((a + d : Nat) : Int), ((a + d : Nat) : Int)))], [], w, 0, 0)
  | 0, c, e => by
    have e : c = d := e
    subst e
    refine yreach.at (S' := (7, [(4, .inl (((a + c : Nat) : Int), ((a + c : Nat) : Int))), (3, .inl (zNm L a c, zNm L a c)), (0, .inr (.inr (1, q))), (1, .inl (((a : Nat) : Int), ((a : Nat) : Int))), (2, .inl (((a + c : Nat) : Int), ((a + c : Nat) : Int)))], [.inl (((a + c : Nat) : Int), ((a + c : Nat) : Int))], w, 0, 0)) (q := _) rfl rfl ?_
    refine yreach.at (S' := (8, [(4, .inl (((a + c : Nat) : Int), ((a + c : Nat) : Int))), (3, .inl (zNm L a c, zNm L a c)), (0, .inr (.inr (1, q))), (1, .inl (((a : Nat) : Int), ((a : Nat) : Int))), (2, .inl (((a + c : Nat) : Int), ((a + c : Nat) : Int)))], [.inl (((a + c : Nat) : Int), ((a + c : Nat) : Int)), .inl (((a + c : Nat) : Int), ((a + c : Nat) : Int))], w, 0, 0)) (q := _) rfl rfl ?_
    refine yreach.at (S' := (33, [(4, .inl (((a + c : Nat) : Int), ((a + c : Nat) : Int))), (3, .inl (zNm L a c, zNm L a c)), (0, .inr (.inr (1, q))), (1, .inl (((a : Nat) : Int), ((a : Nat) : Int))), (2, .inl (((a + c : Nat) : Int), ((a + c : Nat) : Int)))], [], w, 0, 0)) (q := _) rfl (sx_icmp (o := true) (zcmp xge_of (decide_eq_true (by omega)))) ?_
    refine yreach.at (S' := (34, [(4, .inl (((a + c : Nat) : Int), ((a + c : Nat) : Int))), (3, .inl (zNm L a c, zNm L a c)), (0, .inr (.inr (1, q))), (1, .inl (((a : Nat) : Int), ((a : Nat) : Int))), (2, .inl (((a + c : Nat) : Int), ((a + c : Nat) : Int)))], [.inl (zNm L a c, zNm L a c)], w, 0, 0)) (q := _) rfl rfl ?_
    exact yreach.ret (q := (some (.inl (zNm L a c, zNm L a c)), w, 0, 0)) ((xstep_at rfl).trans rfl) rfl
  | m + 1, c, e => by
    obtain ⟨v, h1, h2, h3⟩ := hg c (by omega)
    have h4 := he _ _ h1
    have hl := (List.getElem?_eq_some_iff.mp h1).1
    obtain ⟨n1, n2⟩ := zNm_1000 (L := L) (p := a) (k := c) (by omega) (fun j hj => hg j (by omega))
    refine yreach.at (S' := (7, [(4, .inl (((a + c : Nat) : Int), ((a + c : Nat) : Int))), (3, .inl (zNm L a c, zNm L a c)), (0, .inr (.inr (1, q))), (1, .inl (((a : Nat) : Int), ((a : Nat) : Int))), (2, .inl (((a + d : Nat) : Int), ((a + d : Nat) : Int)))], [.inl (((a + c : Nat) : Int), ((a + c : Nat) : Int))], w, 0, 0)) (q := _) rfl rfl ?_
    refine yreach.at (S' := (8, [(4, .inl (((a + c : Nat) : Int), ((a + c : Nat) : Int))), (3, .inl (zNm L a c, zNm L a c)), (0, .inr (.inr (1, q))), (1, .inl (((a : Nat) : Int), ((a : Nat) : Int))), (2, .inl (((a + d : Nat) : Int), ((a + d : Nat) : Int)))], [.inl (((a + d : Nat) : Int), ((a + d : Nat) : Int)), .inl (((a + c : Nat) : Int), ((a + c : Nat) : Int))], w, 0, 0)) (q := _) rfl rfl ?_
    refine yreach.at (S' := (11, [(4, .inl (((a + c : Nat) : Int), ((a + c : Nat) : Int))), (3, .inl (zNm L a c, zNm L a c)), (0, .inr (.inr (1, q))), (1, .inl (((a : Nat) : Int), ((a : Nat) : Int))), (2, .inl (((a + d : Nat) : Int), ((a + d : Nat) : Int)))], [], w, 0, 0)) (q := _) rfl (sx_icmp (o := false) (zcmp xge_of (decide_eq_false (by omega)))) ?_
    refine yreach.at (S' := (13, [(4, .inl (((a + c : Nat) : Int), ((a + c : Nat) : Int))), (3, .inl (zNm L a c, zNm L a c)), (0, .inr (.inr (1, q))), (1, .inl (((a : Nat) : Int), ((a : Nat) : Int))), (2, .inl (((a + d : Nat) : Int), ((a + d : Nat) : Int)))], [.inl (10, 10)], w, 0, 0)) (q := _) rfl rfl ?_
    refine yreach.at (S' := (14, [(4, .inl (((a + c : Nat) : Int), ((a + c : Nat) : Int))), (3, .inl (zNm L a c, zNm L a c)), (0, .inr (.inr (1, q))), (1, .inl (((a : Nat) : Int), ((a : Nat) : Int))), (2, .inl (((a + d : Nat) : Int), ((a + d : Nat) : Int)))], [.inl (zNm L a c, zNm L a c), .inl (10, 10)], w, 0, 0)) (q := _) rfl rfl ?_
    refine yreach.at (S' := (15, [(4, .inl (((a + c : Nat) : Int), ((a + c : Nat) : Int))), (3, .inl (zNm L a c, zNm L a c)), (0, .inr (.inr (1, q))), (1, .inl (((a : Nat) : Int), ((a : Nat) : Int))), (2, .inl (((a + d : Nat) : Int), ((a + d : Nat) : Int)))], [.inl ((10 * zNm L a c), (10 * zNm L a c))], w, 0, 0)) (q := _) rfl (sx_bin rfl (zmul rfl ⟨by decide, by decide⟩ ⟨by omega, by omega⟩ ⟨by omega, by omega⟩)) ?_
    refine yreach.at (S' := (16, [(4, .inl (((a + c : Nat) : Int), ((a + c : Nat) : Int))), (3, .inl (zNm L a c, zNm L a c)), (0, .inr (.inr (1, q))), (1, .inl (((a : Nat) : Int), ((a : Nat) : Int))), (2, .inl (((a + d : Nat) : Int), ((a + d : Nat) : Int)))], [.inr (.inr (1, q)), .inl ((10 * zNm L a c), (10 * zNm L a c))], w, 0, 0)) (q := _) rfl rfl ?_
    refine yreach.at (S' := (19, [(4, .inl (((a + c : Nat) : Int), ((a + c : Nat) : Int))), (3, .inl (zNm L a c, zNm L a c)), (0, .inr (.inr (1, q))), (1, .inl (((a : Nat) : Int), ((a : Nat) : Int))), (2, .inl (((a + d : Nat) : Int), ((a + d : Nat) : Int)))], [.inr (.inr (1, p)), .inl ((10 * zNm L a c), (10 * zNm L a c))], w, 0, 0)) (q := _) rfl (sx_get hq rfl) ?_
    refine yreach.at (S' := (21, [(4, .inl (((a + c : Nat) : Int), ((a + c : Nat) : Int))), (3, .inl (zNm L a c, zNm L a c)), (0, .inr (.inr (1, q))), (1, .inl (((a : Nat) : Int), ((a : Nat) : Int))), (2, .inl (((a + d : Nat) : Int), ((a + d : Nat) : Int)))], [.inl (((a + c : Nat) : Int), ((a + c : Nat) : Int)), .inr (.inr (1, p)), .inl ((10 * zNm L a c), (10 * zNm L a c))], w, 0, 0)) (q := _) rfl rfl ?_
    refine yreach.at (S' := (22, [(4, .inl (((a + c : Nat) : Int), ((a + c : Nat) : Int))), (3, .inl (zNm L a c, zNm L a c)), (0, .inr (.inr (1, q))), (1, .inl (((a : Nat) : Int), ((a : Nat) : Int))), (2, .inl (((a + d : Nat) : Int), ((a + d : Nat) : Int)))], [.inl (v, v), .inl ((10 * zNm L a c), (10 * zNm L a c))], w, 0, 0)) (q := _) rfl (sx_iald hp (zread h4)) ?_
    refine yreach.at (S' := (23, [(4, .inl (((a + c : Nat) : Int), ((a + c : Nat) : Int))), (3, .inl (zNm L a c, zNm L a c)), (0, .inr (.inr (1, q))), (1, .inl (((a : Nat) : Int), ((a : Nat) : Int))), (2, .inl (((a + d : Nat) : Int), ((a + d : Nat) : Int)))], [.inl ((10 * zNm L a c + v), (10 * zNm L a c + v))], w, 0, 0)) (q := _) rfl (sx_bin rfl (zadd (by rfl) (by omega))) ?_
    refine yreach.at (S' := (25, [(4, .inl (((a + c : Nat) : Int), ((a + c : Nat) : Int))), (3, .inl (zNm L a c, zNm L a c)), (0, .inr (.inr (1, q))), (1, .inl (((a : Nat) : Int), ((a : Nat) : Int))), (2, .inl (((a + d : Nat) : Int), ((a + d : Nat) : Int)))], [.inl (48, 48), .inl ((10 * zNm L a c + v), (10 * zNm L a c + v))], w, 0, 0)) (q := _) rfl rfl ?_
    refine yreach.at (S' := (26, [(4, .inl (((a + c : Nat) : Int), ((a + c : Nat) : Int))), (3, .inl (zNm L a c, zNm L a c)), (0, .inr (.inr (1, q))), (1, .inl (((a : Nat) : Int), ((a : Nat) : Int))), (2, .inl (((a + d : Nat) : Int), ((a + d : Nat) : Int)))], [.inl ((10 * zNm L a c + v - 48), (10 * zNm L a c + v - 48))], w, 0, 0)) (q := _) rfl (sx_isub (by omega)) ?_
    refine yreach.at (S' := (27, [(3, .inl ((10 * zNm L a c + v - 48), (10 * zNm L a c + v - 48))), (4, .inl (((a + c : Nat) : Int), ((a + c : Nat) : Int))), (0, .inr (.inr (1, q))), (1, .inl (((a : Nat) : Int), ((a : Nat) : Int))), (2, .inl (((a + d : Nat) : Int), ((a + d : Nat) : Int)))], [], w, 0, 0)) (q := _) rfl rfl ?_
    refine yreach.at (S' := (30, [(4, .inl ((((a + c : Nat) : Int) + 1), (((a + c : Nat) : Int) + 1))), (3, .inl ((10 * zNm L a c + v - 48), (10 * zNm L a c + v - 48))), (0, .inr (.inr (1, q))), (1, .inl (((a : Nat) : Int), ((a : Nat) : Int))), (2, .inl (((a + d : Nat) : Int), ((a + d : Nat) : Int)))], [], w, 0, 0)) (q := _) rfl (sx_iinc (z := 1) rfl (Nat.le_of_ble_eq_true rfl) (by omega)) ?_
    refine yreach.at (S' := (5, [(4, .inl ((((a + c : Nat) : Int) + 1), (((a + c : Nat) : Int) + 1))), (3, .inl ((10 * zNm L a c + v - 48), (10 * zNm L a c + v - 48))), (0, .inr (.inr (1, q))), (1, .inl (((a : Nat) : Int), ((a : Nat) : Int))), (2, .inl (((a + d : Nat) : Int), ((a + d : Nat) : Int)))], [], w, 0, 0)) (q := _) rfl rfl ?_
    have ih := zc_num_loop hq hp he h40 hd hg m (c + 1) (by omega)
    rw [zNm_s h1] at ih
    exact ih
theorem zc_num {w : XW} {q p : Nat} {L : List Int} {es : List XV} (hq : w[q]? = some (.inl (4, [.inr (.inr (1, p)), .inl ((L.length : Int), (L.length : Int))]))) (hp : w[p]? = some (.inr (0, es))) (he : ∀ (j : Nat) (v : Int), L[j]? = some v → es[j]? = some (.inl (v, v))) (h40 : L.length ≤ 40) {a d : Nat} (hd : d ≤ 3) (hg : ∀ j, j < d → ∃ v, L[a + j]? = some v ∧ 48 ≤ v ∧ v ≤ 57) : XMet l D vwCl (tysX tA) tA ex (xSTX ++ [sc]) xSV xNW xNF xTs xm107 [.inr (.inr (1, q)), .inl ((a : Int), (a : Int)), .inl (((a + d : Nat) : Int), ((a + d : Nat) : Int))] w (some (.inl (zNm L a d, zNm L a d))) w := by
  refine zex (j := 107) rfl (Nat.le_of_ble_eq_true rfl) ?_
  refine yreach.at (S' := (1, [(0, .inr (.inr (1, q))), (1, .inl (((a : Nat) : Int), ((a : Nat) : Int))), (2, .inl (((a + d : Nat) : Int), ((a + d : Nat) : Int)))], [.inl (0, 0)], w, 0, 0)) (q := _) rfl rfl ?_
  refine yreach.at (S' := (2, [(3, .inl (0, 0)), (0, .inr (.inr (1, q))), (1, .inl (((a : Nat) : Int), ((a : Nat) : Int))), (2, .inl (((a + d : Nat) : Int), ((a + d : Nat) : Int)))], [], w, 0, 0)) (q := _) rfl rfl ?_
  refine yreach.at (S' := (3, [(3, .inl (0, 0)), (0, .inr (.inr (1, q))), (1, .inl (((a : Nat) : Int), ((a : Nat) : Int))), (2, .inl (((a + d : Nat) : Int), ((a + d : Nat) : Int)))], [.inl (((a : Nat) : Int), ((a : Nat) : Int))], w, 0, 0)) (q := _) rfl rfl ?_
  refine yreach.at (S' := (5, [(4, .inl (((a : Nat) : Int), ((a : Nat) : Int))), (3, .inl (0, 0)), (0, .inr (.inr (1, q))), (1, .inl (((a : Nat) : Int), ((a : Nat) : Int))), (2, .inl (((a + d : Nat) : Int), ((a + d : Nat) : Int)))], [], w, 0, 0)) (q := _) rfl rfl ?_
  exact zc_num_loop hq hp he h40 hd hg d 0 (Nat.zero_add d)
theorem zc_read_loop {w : XW} {q p : Nat} {L : List Int} {es : List XV} (hq : w[q]? = some (.inl (4, [.inr (.inr (1, p)), .inl ((L.length : Int), (L.length : Int))]))) (hp : w[p]? = some (.inr (0, es))) (he : ∀ (j : Nat) (v : Int), L[j]? = some v → es[j]? = some (.inl (v, v))) (h40 : L.length ≤ 40) {rd : List XV} (hr : w[14]? = some (.inl (5, rd))) (gr : rd[0]? = some (.inr (.inr (1, 15)))) (hn : 15 < w.length) (hq15 : q ≠ 15) (hp15 : p ≠ 15) : ∀ (f i : Nat) (it : List Int), zIt it → L.length ≤ i + f → i ≤ L.length → yreach (ySt sc xm104) (yJm l D tA ex sc xm104) (fun r => r = (some (.inl ((zPr L f i it).1, (zPr L f i it).1)), List.set (α := XC) w 15 (.inr (0, zarr (zPr L f i it).2)), 0, 0)) (23, [(2, .inl (((i : Nat) : Int), ((i : Nat) : Int))), (0, .inr (.inr (1, 14))), (1, .inr (.inr (1, q)))], [], List.set (α := XC) w 15 (.inr (0, zarr it)), 0, 0) := by
  intro f
  induction f with
  | zero =>
    intro i it hit hf hi
    have hwq : (List.set (α := XC) w 15 (.inr (0, zarr it)))[q]? = some (.inl (4, [.inr (.inr (1, p)), .inl ((L.length : Int), (L.length : Int))])) := by
      rw [List.getElem?_set_ne (fun e => hq15 e.symm)]
      exact hq
    rw [zPr_no (List.getElem?_eq_none_iff.mpr (by omega))]
    refine yreach.at (S' := (24, [(2, .inl (((i : Nat) : Int), ((i : Nat) : Int))), (0, .inr (.inr (1, 14))), (1, .inr (.inr (1, q)))], [.inl (((i : Nat) : Int), ((i : Nat) : Int))], List.set (α := XC) w 15 (.inr (0, zarr it)), 0, 0)) (q := _) rfl rfl ?_
    refine yreach.at (S' := (25, [(2, .inl (((i : Nat) : Int), ((i : Nat) : Int))), (0, .inr (.inr (1, 14))), (1, .inr (.inr (1, q)))], [.inr (.inr (1, q)), .inl (((i : Nat) : Int), ((i : Nat) : Int))], List.set (α := XC) w 15 (.inr (0, zarr it)), 0, 0)) (q := _) rfl rfl ?_
    refine yreach.at (S' := (28, [(2, .inl (((i : Nat) : Int), ((i : Nat) : Int))), (0, .inr (.inr (1, 14))), (1, .inr (.inr (1, q)))], [.inl ((L.length : Int), (L.length : Int)), .inl (((i : Nat) : Int), ((i : Nat) : Int))], List.set (α := XC) w 15 (.inr (0, zarr it)), 0, 0)) (q := _) rfl (sx_get hwq rfl) ?_
    refine yreach.at (S' := (129, [(2, .inl (((i : Nat) : Int), ((i : Nat) : Int))), (0, .inr (.inr (1, 14))), (1, .inr (.inr (1, q)))], [], List.set (α := XC) w 15 (.inr (0, zarr it)), 0, 0)) (q := _) rfl (sx_icmp (o := true) (zcmp xge_of (decide_eq_true (by omega)))) ?_
    refine yreach.at (S' := (131, [(2, .inl (((i : Nat) : Int), ((i : Nat) : Int))), (0, .inr (.inr (1, 14))), (1, .inr (.inr (1, q)))], [.inl (-9, -9)], List.set (α := XC) w 15 (.inr (0, zarr it)), 0, 0)) (q := _) rfl rfl ?_
    exact yreach.ret (q := (some (.inl (-9, -9)), List.set (α := XC) w 15 (.inr (0, zarr it)), 0, 0)) ((xstep_at rfl).trans rfl) rfl
  | succ f ih =>
    intro i it hit hf hi
    have hwq : (List.set (α := XC) w 15 (.inr (0, zarr it)))[q]? = some (.inl (4, [.inr (.inr (1, p)), .inl ((L.length : Int), (L.length : Int))])) := by
      rw [List.getElem?_set_ne (fun e => hq15 e.symm)]
      exact hq
    have hwp : (List.set (α := XC) w 15 (.inr (0, zarr it)))[p]? = some (.inr (0, es)) := by
      rw [List.getElem?_set_ne (fun e => hp15 e.symm)]
      exact hp
    have hwr : (List.set (α := XC) w 15 (.inr (0, zarr it)))[14]? = some (.inl (5, rd)) := by
      rw [List.getElem?_set_ne (by decide)]
      exact hr
    cases hL : L[i]? with
    | none =>
      have h1 := List.getElem?_eq_none_iff.mp hL
      rw [zPr_no hL]
      refine yreach.at (S' := (24, [(2, .inl (((i : Nat) : Int), ((i : Nat) : Int))), (0, .inr (.inr (1, 14))), (1, .inr (.inr (1, q)))], [.inl (((i : Nat) : Int), ((i : Nat) : Int))], List.set (α := XC) w 15 (.inr (0, zarr it)), 0, 0)) (q := _) rfl rfl ?_
      refine yreach.at (S' := (25, [(2, .inl (((i : Nat) : Int), ((i : Nat) : Int))), (0, .inr (.inr (1, 14))), (1, .inr (.inr (1, q)))], [.inr (.inr (1, q)), .inl (((i : Nat) : Int), ((i : Nat) : Int))], List.set (α := XC) w 15 (.inr (0, zarr it)), 0, 0)) (q := _) rfl rfl ?_
      refine yreach.at (S' := (28, [(2, .inl (((i : Nat) : Int), ((i : Nat) : Int))), (0, .inr (.inr (1, 14))), (1, .inr (.inr (1, q)))], [.inl ((L.length : Int), (L.length : Int)), .inl (((i : Nat) : Int), ((i : Nat) : Int))], List.set (α := XC) w 15 (.inr (0, zarr it)), 0, 0)) (q := _) rfl (sx_get hwq rfl) ?_
      refine yreach.at (S' := (129, [(2, .inl (((i : Nat) : Int), ((i : Nat) : Int))), (0, .inr (.inr (1, 14))), (1, .inr (.inr (1, q)))], [], List.set (α := XC) w 15 (.inr (0, zarr it)), 0, 0)) (q := _) rfl (sx_icmp (o := true) (zcmp xge_of (decide_eq_true (by omega)))) ?_
      refine yreach.at (S' := (131, [(2, .inl (((i : Nat) : Int), ((i : Nat) : Int))), (0, .inr (.inr (1, 14))), (1, .inr (.inr (1, q)))], [.inl (-9, -9)], List.set (α := XC) w 15 (.inr (0, zarr it)), 0, 0)) (q := _) rfl rfl ?_
      exact yreach.ret (q := (some (.inl (-9, -9)), List.set (α := XC) w 15 (.inr (0, zarr it)), 0, 0)) ((xstep_at rfl).trans rfl) rfl
    | some v =>
      have h1 := (List.getElem?_eq_some_iff.mp hL).1
      have h2 := he _ _ hL
      rw [zPr_s hL]
      by_cases h32 : v = 32
      · rw [if_pos h32]
        refine yreach.at (S' := (24, [(2, .inl (((i : Nat) : Int), ((i : Nat) : Int))), (0, .inr (.inr (1, 14))), (1, .inr (.inr (1, q)))], [.inl (((i : Nat) : Int), ((i : Nat) : Int))], List.set (α := XC) w 15 (.inr (0, zarr it)), 0, 0)) (q := _) rfl rfl ?_
        refine yreach.at (S' := (25, [(2, .inl (((i : Nat) : Int), ((i : Nat) : Int))), (0, .inr (.inr (1, 14))), (1, .inr (.inr (1, q)))], [.inr (.inr (1, q)), .inl (((i : Nat) : Int), ((i : Nat) : Int))], List.set (α := XC) w 15 (.inr (0, zarr it)), 0, 0)) (q := _) rfl rfl ?_
        refine yreach.at (S' := (28, [(2, .inl (((i : Nat) : Int), ((i : Nat) : Int))), (0, .inr (.inr (1, 14))), (1, .inr (.inr (1, q)))], [.inl ((L.length : Int), (L.length : Int)), .inl (((i : Nat) : Int), ((i : Nat) : Int))], List.set (α := XC) w 15 (.inr (0, zarr it)), 0, 0)) (q := _) rfl (sx_get hwq rfl) ?_
        refine yreach.at (S' := (31, [(2, .inl (((i : Nat) : Int), ((i : Nat) : Int))), (0, .inr (.inr (1, 14))), (1, .inr (.inr (1, q)))], [], List.set (α := XC) w 15 (.inr (0, zarr it)), 0, 0)) (q := _) rfl (sx_icmp (o := false) (zcmp xge_of (decide_eq_false (by omega)))) ?_
        refine yreach.at (S' := (32, [(2, .inl (((i : Nat) : Int), ((i : Nat) : Int))), (0, .inr (.inr (1, 14))), (1, .inr (.inr (1, q)))], [.inr (.inr (1, q))], List.set (α := XC) w 15 (.inr (0, zarr it)), 0, 0)) (q := _) rfl rfl ?_
        refine yreach.at (S' := (35, [(2, .inl (((i : Nat) : Int), ((i : Nat) : Int))), (0, .inr (.inr (1, 14))), (1, .inr (.inr (1, q)))], [.inr (.inr (1, p))], List.set (α := XC) w 15 (.inr (0, zarr it)), 0, 0)) (q := _) rfl (sx_get hwq rfl) ?_
        refine yreach.at (S' := (36, [(2, .inl (((i : Nat) : Int), ((i : Nat) : Int))), (0, .inr (.inr (1, 14))), (1, .inr (.inr (1, q)))], [.inl (((i : Nat) : Int), ((i : Nat) : Int)), .inr (.inr (1, p))], List.set (α := XC) w 15 (.inr (0, zarr it)), 0, 0)) (q := _) rfl rfl ?_
        refine yreach.at (S' := (37, [(2, .inl (((i : Nat) : Int), ((i : Nat) : Int))), (0, .inr (.inr (1, 14))), (1, .inr (.inr (1, q)))], [.inl (v, v)], List.set (α := XC) w 15 (.inr (0, zarr it)), 0, 0)) (q := _) rfl (sx_iald hwp (zread h2)) ?_
        refine yreach.at (S' := (39, [(2, .inl (((i : Nat) : Int), ((i : Nat) : Int))), (0, .inr (.inr (1, 14))), (1, .inr (.inr (1, q)))], [.inl (32, 32), .inl (v, v)], List.set (α := XC) w 15 (.inr (0, zarr it)), 0, 0)) (q := _) rfl rfl ?_
        refine yreach.at (S' := (42, [(2, .inl (((i : Nat) : Int), ((i : Nat) : Int))), (0, .inr (.inr (1, 14))), (1, .inr (.inr (1, q)))], [], List.set (α := XC) w 15 (.inr (0, zarr it)), 0, 0)) (q := _) rfl (sx_icmp (o := false) (zcmp xcne_of (decide_eq_false (by omega)))) ?_
        refine yreach.at (S' := (45, [(2, .inl ((((i : Nat) : Int) + 1), (((i : Nat) : Int) + 1))), (0, .inr (.inr (1, 14))), (1, .inr (.inr (1, q)))], [], List.set (α := XC) w 15 (.inr (0, zarr it)), 0, 0)) (q := _) rfl (sx_iinc (z := 1) rfl (Nat.le_of_ble_eq_true rfl) (by omega)) ?_
        refine yreach.at (S' := (23, [(2, .inl ((((i : Nat) : Int) + 1), (((i : Nat) : Int) + 1))), (0, .inr (.inr (1, 14))), (1, .inr (.inr (1, q)))], [], List.set (α := XC) w 15 (.inr (0, zarr it)), 0, 0)) (q := _) rfl rfl ?_
        exact ih (i + 1) it hit (by omega) (by omega)
      rw [if_neg h32]
      by_cases h9 : zLt v = -9
      · rw [if_pos h9]
        have ml := zc_let (l := l) (D := D) (tA := tA) (ex := ex) (sc := sc) (w := List.set (α := XC) w 15 (.inr (0, zarr it))) (v := v)
        rw [h9] at ml
        refine yreach.at (S' := (24, [(2, .inl (((i : Nat) : Int), ((i : Nat) : Int))), (0, .inr (.inr (1, 14))), (1, .inr (.inr (1, q)))], [.inl (((i : Nat) : Int), ((i : Nat) : Int))], List.set (α := XC) w 15 (.inr (0, zarr it)), 0, 0)) (q := _) rfl rfl ?_
        refine yreach.at (S' := (25, [(2, .inl (((i : Nat) : Int), ((i : Nat) : Int))), (0, .inr (.inr (1, 14))), (1, .inr (.inr (1, q)))], [.inr (.inr (1, q)), .inl (((i : Nat) : Int), ((i : Nat) : Int))], List.set (α := XC) w 15 (.inr (0, zarr it)), 0, 0)) (q := _) rfl rfl ?_
        refine yreach.at (S' := (28, [(2, .inl (((i : Nat) : Int), ((i : Nat) : Int))), (0, .inr (.inr (1, 14))), (1, .inr (.inr (1, q)))], [.inl ((L.length : Int), (L.length : Int)), .inl (((i : Nat) : Int), ((i : Nat) : Int))], List.set (α := XC) w 15 (.inr (0, zarr it)), 0, 0)) (q := _) rfl (sx_get hwq rfl) ?_
        refine yreach.at (S' := (31, [(2, .inl (((i : Nat) : Int), ((i : Nat) : Int))), (0, .inr (.inr (1, 14))), (1, .inr (.inr (1, q)))], [], List.set (α := XC) w 15 (.inr (0, zarr it)), 0, 0)) (q := _) rfl (sx_icmp (o := false) (zcmp xge_of (decide_eq_false (by omega)))) ?_
        refine yreach.at (S' := (32, [(2, .inl (((i : Nat) : Int), ((i : Nat) : Int))), (0, .inr (.inr (1, 14))), (1, .inr (.inr (1, q)))], [.inr (.inr (1, q))], List.set (α := XC) w 15 (.inr (0, zarr it)), 0, 0)) (q := _) rfl rfl ?_
        refine yreach.at (S' := (35, [(2, .inl (((i : Nat) : Int), ((i : Nat) : Int))), (0, .inr (.inr (1, 14))), (1, .inr (.inr (1, q)))], [.inr (.inr (1, p))], List.set (α := XC) w 15 (.inr (0, zarr it)), 0, 0)) (q := _) rfl (sx_get hwq rfl) ?_
        refine yreach.at (S' := (36, [(2, .inl (((i : Nat) : Int), ((i : Nat) : Int))), (0, .inr (.inr (1, 14))), (1, .inr (.inr (1, q)))], [.inl (((i : Nat) : Int), ((i : Nat) : Int)), .inr (.inr (1, p))], List.set (α := XC) w 15 (.inr (0, zarr it)), 0, 0)) (q := _) rfl rfl ?_
        refine yreach.at (S' := (37, [(2, .inl (((i : Nat) : Int), ((i : Nat) : Int))), (0, .inr (.inr (1, 14))), (1, .inr (.inr (1, q)))], [.inl (v, v)], List.set (α := XC) w 15 (.inr (0, zarr it)), 0, 0)) (q := _) rfl (sx_iald hwp (zread h2)) ?_
        refine yreach.at (S' := (39, [(2, .inl (((i : Nat) : Int), ((i : Nat) : Int))), (0, .inr (.inr (1, 14))), (1, .inr (.inr (1, q)))], [.inl (32, 32), .inl (v, v)], List.set (α := XC) w 15 (.inr (0, zarr it)), 0, 0)) (q := _) rfl rfl ?_
        refine yreach.at (S' := (48, [(2, .inl (((i : Nat) : Int), ((i : Nat) : Int))), (0, .inr (.inr (1, 14))), (1, .inr (.inr (1, q)))], [], List.set (α := XC) w 15 (.inr (0, zarr it)), 0, 0)) (q := _) rfl (sx_icmp (o := true) (zcmp xcne_of (decide_eq_true (by omega)))) ?_
        refine yreach.at (S' := (49, [(2, .inl (((i : Nat) : Int), ((i : Nat) : Int))), (0, .inr (.inr (1, 14))), (1, .inr (.inr (1, q)))], [.inr (.inr (1, q))], List.set (α := XC) w 15 (.inr (0, zarr it)), 0, 0)) (q := _) rfl rfl ?_
        refine yreach.at (S' := (52, [(2, .inl (((i : Nat) : Int), ((i : Nat) : Int))), (0, .inr (.inr (1, 14))), (1, .inr (.inr (1, q)))], [.inr (.inr (1, p))], List.set (α := XC) w 15 (.inr (0, zarr it)), 0, 0)) (q := _) rfl (sx_get hwq rfl) ?_
        refine yreach.at (S' := (53, [(2, .inl (((i : Nat) : Int), ((i : Nat) : Int))), (0, .inr (.inr (1, 14))), (1, .inr (.inr (1, q)))], [.inl (((i : Nat) : Int), ((i : Nat) : Int)), .inr (.inr (1, p))], List.set (α := XC) w 15 (.inr (0, zarr it)), 0, 0)) (q := _) rfl rfl ?_
        refine yreach.at (S' := (54, [(2, .inl (((i : Nat) : Int), ((i : Nat) : Int))), (0, .inr (.inr (1, 14))), (1, .inr (.inr (1, q)))], [.inl (v, v)], List.set (α := XC) w 15 (.inr (0, zarr it)), 0, 0)) (q := _) rfl (sx_iald hwp (zread h2)) ?_
        refine ycall_at (N := xm105) (ro := some (.inl (-9, -9))) (w' := List.set (α := XC) w 15 (.inr (0, zarr it))) (recv := false) (i := .invokestatic 24) (a := 105) (na := 1) (z := 0) rfl (fun _ => rfl) rfl ml ⟨Nat.le_of_ble_eq_true rfl, Nat.le_of_ble_eq_true rfl, Nat.le_of_ble_eq_true rfl, Nat.le_of_ble_eq_true rfl, Nat.le_of_ble_eq_true rfl, Nat.le_of_ble_eq_true rfl, rfl⟩ ?_
        show yreach (ySt sc xm104) (yJm l D tA ex sc xm104) (_) (57, [(2, .inl (((i : Nat) : Int), ((i : Nat) : Int))), (0, .inr (.inr (1, 14))), (1, .inr (.inr (1, q)))], [.inl (-9, -9)], List.set (α := XC) w 15 (.inr (0, zarr it)), 0, 0)
        refine yreach.at (S' := (58, [(3, .inl (-9, -9)), (2, .inl (((i : Nat) : Int), ((i : Nat) : Int))), (0, .inr (.inr (1, 14))), (1, .inr (.inr (1, q)))], [], List.set (α := XC) w 15 (.inr (0, zarr it)), 0, 0)) (q := _) rfl rfl ?_
        refine yreach.at (S' := (59, [(3, .inl (-9, -9)), (2, .inl (((i : Nat) : Int), ((i : Nat) : Int))), (0, .inr (.inr (1, 14))), (1, .inr (.inr (1, q)))], [.inl (-9, -9)], List.set (α := XC) w 15 (.inr (0, zarr it)), 0, 0)) (q := _) rfl rfl ?_
        refine yreach.at (S' := (61, [(3, .inl (-9, -9)), (2, .inl (((i : Nat) : Int), ((i : Nat) : Int))), (0, .inr (.inr (1, 14))), (1, .inr (.inr (1, q)))], [.inl (-9, -9), .inl (-9, -9)], List.set (α := XC) w 15 (.inr (0, zarr it)), 0, 0)) (q := _) rfl rfl ?_
        refine yreach.at (S' := (64, [(3, .inl (-9, -9)), (2, .inl (((i : Nat) : Int), ((i : Nat) : Int))), (0, .inr (.inr (1, 14))), (1, .inr (.inr (1, q)))], [], List.set (α := XC) w 15 (.inr (0, zarr it)), 0, 0)) (q := _) rfl (sx_icmp (o := false) (zcmp xcne_of (decide_eq_false (by omega)))) ?_
        refine yreach.at (S' := (65, [(3, .inl (-9, -9)), (2, .inl (((i : Nat) : Int), ((i : Nat) : Int))), (0, .inr (.inr (1, 14))), (1, .inr (.inr (1, q)))], [.inl (((i : Nat) : Int), ((i : Nat) : Int))], List.set (α := XC) w 15 (.inr (0, zarr it)), 0, 0)) (q := _) rfl rfl ?_
        exact yreach.ret (q := (some (.inl (((i : Nat) : Int), ((i : Nat) : Int))), List.set (α := XC) w 15 (.inr (0, zarr it)), 0, 0)) ((xstep_at rfl).trans rfl) rfl
      rw [if_neg h9]
      have hlt := (zLt_c v).resolve_left h9
      obtain ⟨u, hu⟩ : ∃ u : Nat, zLt v = (u : Int) := ⟨(zLt v).toNat, by omega⟩
      have ml := zc_let (l := l) (D := D) (tA := tA) (ex := ex) (sc := sc) (w := List.set (α := XC) w 15 (.inr (0, zarr it))) (v := v)
      rw [hu] at ml
      have md := zc_dig (l := l) (D := D) (tA := tA) (ex := ex) (sc := sc) hwq hwp he h40 (a := i + 1) (by omega)
      generalize hd : zDg L 3 (i + 1) = d at md ⊢
      have hd3 : d ≤ 3 := by
        rw [← hd]
        exact zDg_le
      have hdl : i + 1 + d ≤ L.length := by
        rw [← hd]
        exact zDg_len (by omega)
      by_cases hd0 : d = 0
      · rw [if_pos hd0]
        subst hd0
        refine yreach.at (S' := (24, [(2, .inl (((i : Nat) : Int), ((i : Nat) : Int))), (0, .inr (.inr (1, 14))), (1, .inr (.inr (1, q)))], [.inl (((i : Nat) : Int), ((i : Nat) : Int))], List.set (α := XC) w 15 (.inr (0, zarr it)), 0, 0)) (q := _) rfl rfl ?_
        refine yreach.at (S' := (25, [(2, .inl (((i : Nat) : Int), ((i : Nat) : Int))), (0, .inr (.inr (1, 14))), (1, .inr (.inr (1, q)))], [.inr (.inr (1, q)), .inl (((i : Nat) : Int), ((i : Nat) : Int))], List.set (α := XC) w 15 (.inr (0, zarr it)), 0, 0)) (q := _) rfl rfl ?_
        refine yreach.at (S' := (28, [(2, .inl (((i : Nat) : Int), ((i : Nat) : Int))), (0, .inr (.inr (1, 14))), (1, .inr (.inr (1, q)))], [.inl ((L.length : Int), (L.length : Int)), .inl (((i : Nat) : Int), ((i : Nat) : Int))], List.set (α := XC) w 15 (.inr (0, zarr it)), 0, 0)) (q := _) rfl (sx_get hwq rfl) ?_
        refine yreach.at (S' := (31, [(2, .inl (((i : Nat) : Int), ((i : Nat) : Int))), (0, .inr (.inr (1, 14))), (1, .inr (.inr (1, q)))], [], List.set (α := XC) w 15 (.inr (0, zarr it)), 0, 0)) (q := _) rfl (sx_icmp (o := false) (zcmp xge_of (decide_eq_false (by omega)))) ?_
        refine yreach.at (S' := (32, [(2, .inl (((i : Nat) : Int), ((i : Nat) : Int))), (0, .inr (.inr (1, 14))), (1, .inr (.inr (1, q)))], [.inr (.inr (1, q))], List.set (α := XC) w 15 (.inr (0, zarr it)), 0, 0)) (q := _) rfl rfl ?_
        refine yreach.at (S' := (35, [(2, .inl (((i : Nat) : Int), ((i : Nat) : Int))), (0, .inr (.inr (1, 14))), (1, .inr (.inr (1, q)))], [.inr (.inr (1, p))], List.set (α := XC) w 15 (.inr (0, zarr it)), 0, 0)) (q := _) rfl (sx_get hwq rfl) ?_
        refine yreach.at (S' := (36, [(2, .inl (((i : Nat) : Int), ((i : Nat) : Int))), (0, .inr (.inr (1, 14))), (1, .inr (.inr (1, q)))], [.inl (((i : Nat) : Int), ((i : Nat) : Int)), .inr (.inr (1, p))], List.set (α := XC) w 15 (.inr (0, zarr it)), 0, 0)) (q := _) rfl rfl ?_
        refine yreach.at (S' := (37, [(2, .inl (((i : Nat) : Int), ((i : Nat) : Int))), (0, .inr (.inr (1, 14))), (1, .inr (.inr (1, q)))], [.inl (v, v)], List.set (α := XC) w 15 (.inr (0, zarr it)), 0, 0)) (q := _) rfl (sx_iald hwp (zread h2)) ?_
        refine yreach.at (S' := (39, [(2, .inl (((i : Nat) : Int), ((i : Nat) : Int))), (0, .inr (.inr (1, 14))), (1, .inr (.inr (1, q)))], [.inl (32, 32), .inl (v, v)], List.set (α := XC) w 15 (.inr (0, zarr it)), 0, 0)) (q := _) rfl rfl ?_
        refine yreach.at (S' := (48, [(2, .inl (((i : Nat) : Int), ((i : Nat) : Int))), (0, .inr (.inr (1, 14))), (1, .inr (.inr (1, q)))], [], List.set (α := XC) w 15 (.inr (0, zarr it)), 0, 0)) (q := _) rfl (sx_icmp (o := true) (zcmp xcne_of (decide_eq_true (by omega)))) ?_
        refine yreach.at (S' := (49, [(2, .inl (((i : Nat) : Int), ((i : Nat) : Int))), (0, .inr (.inr (1, 14))), (1, .inr (.inr (1, q)))], [.inr (.inr (1, q))], List.set (α := XC) w 15 (.inr (0, zarr it)), 0, 0)) (q := _) rfl rfl ?_
        refine yreach.at (S' := (52, [(2, .inl (((i : Nat) : Int), ((i : Nat) : Int))), (0, .inr (.inr (1, 14))), (1, .inr (.inr (1, q)))], [.inr (.inr (1, p))], List.set (α := XC) w 15 (.inr (0, zarr it)), 0, 0)) (q := _) rfl (sx_get hwq rfl) ?_
        refine yreach.at (S' := (53, [(2, .inl (((i : Nat) : Int), ((i : Nat) : Int))), (0, .inr (.inr (1, 14))), (1, .inr (.inr (1, q)))], [.inl (((i : Nat) : Int), ((i : Nat) : Int)), .inr (.inr (1, p))], List.set (α := XC) w 15 (.inr (0, zarr it)), 0, 0)) (q := _) rfl rfl ?_
        refine yreach.at (S' := (54, [(2, .inl (((i : Nat) : Int), ((i : Nat) : Int))), (0, .inr (.inr (1, 14))), (1, .inr (.inr (1, q)))], [.inl (v, v)], List.set (α := XC) w 15 (.inr (0, zarr it)), 0, 0)) (q := _) rfl (sx_iald hwp (zread h2)) ?_
        refine ycall_at (N := xm105) (ro := some (.inl ((u : Int), (u : Int)))) (w' := List.set (α := XC) w 15 (.inr (0, zarr it))) (recv := false) (i := .invokestatic 24) (a := 105) (na := 1) (z := 0) rfl (fun _ => rfl) rfl ml ⟨Nat.le_of_ble_eq_true rfl, Nat.le_of_ble_eq_true rfl, Nat.le_of_ble_eq_true rfl, Nat.le_of_ble_eq_true rfl, Nat.le_of_ble_eq_true rfl, Nat.le_of_ble_eq_true rfl, rfl⟩ ?_
        show yreach (ySt sc xm104) (yJm l D tA ex sc xm104) (_) (57, [(2, .inl (((i : Nat) : Int), ((i : Nat) : Int))), (0, .inr (.inr (1, 14))), (1, .inr (.inr (1, q)))], [.inl ((u : Int), (u : Int))], List.set (α := XC) w 15 (.inr (0, zarr it)), 0, 0)
        refine yreach.at (S' := (58, [(3, .inl ((u : Int), (u : Int))), (2, .inl (((i : Nat) : Int), ((i : Nat) : Int))), (0, .inr (.inr (1, 14))), (1, .inr (.inr (1, q)))], [], List.set (α := XC) w 15 (.inr (0, zarr it)), 0, 0)) (q := _) rfl rfl ?_
        refine yreach.at (S' := (59, [(3, .inl ((u : Int), (u : Int))), (2, .inl (((i : Nat) : Int), ((i : Nat) : Int))), (0, .inr (.inr (1, 14))), (1, .inr (.inr (1, q)))], [.inl ((u : Int), (u : Int))], List.set (α := XC) w 15 (.inr (0, zarr it)), 0, 0)) (q := _) rfl rfl ?_
        refine yreach.at (S' := (61, [(3, .inl ((u : Int), (u : Int))), (2, .inl (((i : Nat) : Int), ((i : Nat) : Int))), (0, .inr (.inr (1, 14))), (1, .inr (.inr (1, q)))], [.inl (-9, -9), .inl ((u : Int), (u : Int))], List.set (α := XC) w 15 (.inr (0, zarr it)), 0, 0)) (q := _) rfl rfl ?_
        refine yreach.at (S' := (66, [(3, .inl ((u : Int), (u : Int))), (2, .inl (((i : Nat) : Int), ((i : Nat) : Int))), (0, .inr (.inr (1, 14))), (1, .inr (.inr (1, q)))], [], List.set (α := XC) w 15 (.inr (0, zarr it)), 0, 0)) (q := _) rfl (sx_icmp (o := true) (zcmp xcne_of (decide_eq_true (by omega)))) ?_
        refine yreach.at (S' := (67, [(3, .inl ((u : Int), (u : Int))), (2, .inl (((i : Nat) : Int), ((i : Nat) : Int))), (0, .inr (.inr (1, 14))), (1, .inr (.inr (1, q)))], [.inr (.inr (1, q))], List.set (α := XC) w 15 (.inr (0, zarr it)), 0, 0)) (q := _) rfl rfl ?_
        refine yreach.at (S' := (68, [(3, .inl ((u : Int), (u : Int))), (2, .inl (((i : Nat) : Int), ((i : Nat) : Int))), (0, .inr (.inr (1, 14))), (1, .inr (.inr (1, q)))], [.inl (((i : Nat) : Int), ((i : Nat) : Int)), .inr (.inr (1, q))], List.set (α := XC) w 15 (.inr (0, zarr it)), 0, 0)) (q := _) rfl rfl ?_
        refine yreach.at (S' := (69, [(3, .inl ((u : Int), (u : Int))), (2, .inl (((i : Nat) : Int), ((i : Nat) : Int))), (0, .inr (.inr (1, 14))), (1, .inr (.inr (1, q)))], [.inl (1, 1), .inl (((i : Nat) : Int), ((i : Nat) : Int)), .inr (.inr (1, q))], List.set (α := XC) w 15 (.inr (0, zarr it)), 0, 0)) (q := _) rfl rfl ?_
        refine yreach.at (S' := (70, [(3, .inl ((u : Int), (u : Int))), (2, .inl (((i : Nat) : Int), ((i : Nat) : Int))), (0, .inr (.inr (1, 14))), (1, .inr (.inr (1, q)))], [.inl (((i + 1 : Nat) : Int), ((i + 1 : Nat) : Int)), .inr (.inr (1, q))], List.set (α := XC) w 15 (.inr (0, zarr it)), 0, 0)) (q := _) rfl (sx_bin rfl (zadd (by omega) (by omega))) ?_
        refine ycall_at (N := xm106) (ro := some (.inl (((i + 1 + 0 : Nat) : Int), ((i + 1 + 0 : Nat) : Int)))) (w' := List.set (α := XC) w 15 (.inr (0, zarr it))) (recv := false) (i := .invokestatic 28) (a := 106) (na := 2) (z := 0) rfl (fun _ => rfl) rfl md ⟨Nat.le_of_ble_eq_true rfl, Nat.le_of_ble_eq_true rfl, Nat.le_of_ble_eq_true rfl, Nat.le_of_ble_eq_true rfl, Nat.le_of_ble_eq_true rfl, Nat.le_of_ble_eq_true rfl, rfl⟩ ?_
        show yreach (ySt sc xm104) (yJm l D tA ex sc xm104) (_) (73, [(3, .inl ((u : Int), (u : Int))), (2, .inl (((i : Nat) : Int), ((i : Nat) : Int))), (0, .inr (.inr (1, 14))), (1, .inr (.inr (1, q)))], [.inl (((i + 1 + 0 : Nat) : Int), ((i + 1 + 0 : Nat) : Int))], List.set (α := XC) w 15 (.inr (0, zarr it)), 0, 0)
        refine yreach.at (S' := (75, [(4, .inl (((i + 1 + 0 : Nat) : Int), ((i + 1 + 0 : Nat) : Int))), (3, .inl ((u : Int), (u : Int))), (2, .inl (((i : Nat) : Int), ((i : Nat) : Int))), (0, .inr (.inr (1, 14))), (1, .inr (.inr (1, q)))], [], List.set (α := XC) w 15 (.inr (0, zarr it)), 0, 0)) (q := _) rfl rfl ?_
        refine yreach.at (S' := (77, [(4, .inl (((i + 1 + 0 : Nat) : Int), ((i + 1 + 0 : Nat) : Int))), (3, .inl ((u : Int), (u : Int))), (2, .inl (((i : Nat) : Int), ((i : Nat) : Int))), (0, .inr (.inr (1, 14))), (1, .inr (.inr (1, q)))], [.inl (((i + 1 + 0 : Nat) : Int), ((i + 1 + 0 : Nat) : Int))], List.set (α := XC) w 15 (.inr (0, zarr it)), 0, 0)) (q := _) rfl rfl ?_
        refine yreach.at (S' := (78, [(4, .inl (((i + 1 + 0 : Nat) : Int), ((i + 1 + 0 : Nat) : Int))), (3, .inl ((u : Int), (u : Int))), (2, .inl (((i : Nat) : Int), ((i : Nat) : Int))), (0, .inr (.inr (1, 14))), (1, .inr (.inr (1, q)))], [.inl (((i : Nat) : Int), ((i : Nat) : Int)), .inl (((i + 1 + 0 : Nat) : Int), ((i + 1 + 0 : Nat) : Int))], List.set (α := XC) w 15 (.inr (0, zarr it)), 0, 0)) (q := _) rfl rfl ?_
        refine yreach.at (S' := (79, [(4, .inl (((i + 1 + 0 : Nat) : Int), ((i + 1 + 0 : Nat) : Int))), (3, .inl ((u : Int), (u : Int))), (2, .inl (((i : Nat) : Int), ((i : Nat) : Int))), (0, .inr (.inr (1, 14))), (1, .inr (.inr (1, q)))], [.inl (1, 1), .inl (((i : Nat) : Int), ((i : Nat) : Int)), .inl (((i + 1 + 0 : Nat) : Int), ((i + 1 + 0 : Nat) : Int))], List.set (α := XC) w 15 (.inr (0, zarr it)), 0, 0)) (q := _) rfl rfl ?_
        refine yreach.at (S' := (80, [(4, .inl (((i + 1 + 0 : Nat) : Int), ((i + 1 + 0 : Nat) : Int))), (3, .inl ((u : Int), (u : Int))), (2, .inl (((i : Nat) : Int), ((i : Nat) : Int))), (0, .inr (.inr (1, 14))), (1, .inr (.inr (1, q)))], [.inl (((i + 1 : Nat) : Int), ((i + 1 : Nat) : Int)), .inl (((i + 1 + 0 : Nat) : Int), ((i + 1 + 0 : Nat) : Int))], List.set (α := XC) w 15 (.inr (0, zarr it)), 0, 0)) (q := _) rfl (sx_bin rfl (zadd (by omega) (by omega))) ?_
        refine yreach.at (S' := (83, [(4, .inl (((i + 1 + 0 : Nat) : Int), ((i + 1 + 0 : Nat) : Int))), (3, .inl ((u : Int), (u : Int))), (2, .inl (((i : Nat) : Int), ((i : Nat) : Int))), (0, .inr (.inr (1, 14))), (1, .inr (.inr (1, q)))], [], List.set (α := XC) w 15 (.inr (0, zarr it)), 0, 0)) (q := _) rfl (sx_icmp (o := false) (zcmp xcne_of (decide_eq_false (by omega)))) ?_
        refine yreach.at (S' := (85, [(4, .inl (((i + 1 + 0 : Nat) : Int), ((i + 1 + 0 : Nat) : Int))), (3, .inl ((u : Int), (u : Int))), (2, .inl (((i : Nat) : Int), ((i : Nat) : Int))), (0, .inr (.inr (1, 14))), (1, .inr (.inr (1, q)))], [.inl (((i + 1 + 0 : Nat) : Int), ((i + 1 + 0 : Nat) : Int))], List.set (α := XC) w 15 (.inr (0, zarr it)), 0, 0)) (q := _) rfl rfl ?_
        exact yreach.ret (q := (some (.inl (((i + 1 + 0 : Nat) : Int), ((i + 1 + 0 : Nat) : Int))), List.set (α := XC) w 15 (.inr (0, zarr it)), 0, 0)) ((xstep_at rfl).trans rfl) rfl
      rw [if_neg hd0]
      have hg : ∀ j, j < d → ∃ v, L[i + 1 + j]? = some v ∧ 48 ≤ v ∧ v ≤ 57 := fun j hj => zDg_in (m := 3) (by rw [hd]; exact hj)
      have mn := zc_num (l := l) (D := D) (tA := tA) (ex := ex) (sc := sc) hwq hwp he h40 (a := i + 1) hd3 hg
      obtain ⟨n1, n2⟩ := zNm_1000 (L := L) (p := i + 1) hd3 hg
      generalize hn' : zNm L (i + 1) d = n at mn n1 n2 ⊢
      rw [hu, Int.toNat_natCast]
      by_cases hbad : n = 0 ∧ 2 ≤ (u : Int)
      · rw [if_pos hbad]
        by_cases hu2 : u = 2
        · refine yreach.at (S' := (24, [(2, .inl (((i : Nat) : Int), ((i : Nat) : Int))), (0, .inr (.inr (1, 14))), (1, .inr (.inr (1, q)))], [.inl (((i : Nat) : Int), ((i : Nat) : Int))], List.set (α := XC) w 15 (.inr (0, zarr it)), 0, 0)) (q := _) rfl rfl ?_
          refine yreach.at (S' := (25, [(2, .inl (((i : Nat) : Int), ((i : Nat) : Int))), (0, .inr (.inr (1, 14))), (1, .inr (.inr (1, q)))], [.inr (.inr (1, q)), .inl (((i : Nat) : Int), ((i : Nat) : Int))], List.set (α := XC) w 15 (.inr (0, zarr it)), 0, 0)) (q := _) rfl rfl ?_
          refine yreach.at (S' := (28, [(2, .inl (((i : Nat) : Int), ((i : Nat) : Int))), (0, .inr (.inr (1, 14))), (1, .inr (.inr (1, q)))], [.inl ((L.length : Int), (L.length : Int)), .inl (((i : Nat) : Int), ((i : Nat) : Int))], List.set (α := XC) w 15 (.inr (0, zarr it)), 0, 0)) (q := _) rfl (sx_get hwq rfl) ?_
          refine yreach.at (S' := (31, [(2, .inl (((i : Nat) : Int), ((i : Nat) : Int))), (0, .inr (.inr (1, 14))), (1, .inr (.inr (1, q)))], [], List.set (α := XC) w 15 (.inr (0, zarr it)), 0, 0)) (q := _) rfl (sx_icmp (o := false) (zcmp xge_of (decide_eq_false (by omega)))) ?_
          refine yreach.at (S' := (32, [(2, .inl (((i : Nat) : Int), ((i : Nat) : Int))), (0, .inr (.inr (1, 14))), (1, .inr (.inr (1, q)))], [.inr (.inr (1, q))], List.set (α := XC) w 15 (.inr (0, zarr it)), 0, 0)) (q := _) rfl rfl ?_
          refine yreach.at (S' := (35, [(2, .inl (((i : Nat) : Int), ((i : Nat) : Int))), (0, .inr (.inr (1, 14))), (1, .inr (.inr (1, q)))], [.inr (.inr (1, p))], List.set (α := XC) w 15 (.inr (0, zarr it)), 0, 0)) (q := _) rfl (sx_get hwq rfl) ?_
          refine yreach.at (S' := (36, [(2, .inl (((i : Nat) : Int), ((i : Nat) : Int))), (0, .inr (.inr (1, 14))), (1, .inr (.inr (1, q)))], [.inl (((i : Nat) : Int), ((i : Nat) : Int)), .inr (.inr (1, p))], List.set (α := XC) w 15 (.inr (0, zarr it)), 0, 0)) (q := _) rfl rfl ?_
          refine yreach.at (S' := (37, [(2, .inl (((i : Nat) : Int), ((i : Nat) : Int))), (0, .inr (.inr (1, 14))), (1, .inr (.inr (1, q)))], [.inl (v, v)], List.set (α := XC) w 15 (.inr (0, zarr it)), 0, 0)) (q := _) rfl (sx_iald hwp (zread h2)) ?_
          refine yreach.at (S' := (39, [(2, .inl (((i : Nat) : Int), ((i : Nat) : Int))), (0, .inr (.inr (1, 14))), (1, .inr (.inr (1, q)))], [.inl (32, 32), .inl (v, v)], List.set (α := XC) w 15 (.inr (0, zarr it)), 0, 0)) (q := _) rfl rfl ?_
          refine yreach.at (S' := (48, [(2, .inl (((i : Nat) : Int), ((i : Nat) : Int))), (0, .inr (.inr (1, 14))), (1, .inr (.inr (1, q)))], [], List.set (α := XC) w 15 (.inr (0, zarr it)), 0, 0)) (q := _) rfl (sx_icmp (o := true) (zcmp xcne_of (decide_eq_true (by omega)))) ?_
          refine yreach.at (S' := (49, [(2, .inl (((i : Nat) : Int), ((i : Nat) : Int))), (0, .inr (.inr (1, 14))), (1, .inr (.inr (1, q)))], [.inr (.inr (1, q))], List.set (α := XC) w 15 (.inr (0, zarr it)), 0, 0)) (q := _) rfl rfl ?_
          refine yreach.at (S' := (52, [(2, .inl (((i : Nat) : Int), ((i : Nat) : Int))), (0, .inr (.inr (1, 14))), (1, .inr (.inr (1, q)))], [.inr (.inr (1, p))], List.set (α := XC) w 15 (.inr (0, zarr it)), 0, 0)) (q := _) rfl (sx_get hwq rfl) ?_
          refine yreach.at (S' := (53, [(2, .inl (((i : Nat) : Int), ((i : Nat) : Int))), (0, .inr (.inr (1, 14))), (1, .inr (.inr (1, q)))], [.inl (((i : Nat) : Int), ((i : Nat) : Int)), .inr (.inr (1, p))], List.set (α := XC) w 15 (.inr (0, zarr it)), 0, 0)) (q := _) rfl rfl ?_
          refine yreach.at (S' := (54, [(2, .inl (((i : Nat) : Int), ((i : Nat) : Int))), (0, .inr (.inr (1, 14))), (1, .inr (.inr (1, q)))], [.inl (v, v)], List.set (α := XC) w 15 (.inr (0, zarr it)), 0, 0)) (q := _) rfl (sx_iald hwp (zread h2)) ?_
          refine ycall_at (N := xm105) (ro := some (.inl ((u : Int), (u : Int)))) (w' := List.set (α := XC) w 15 (.inr (0, zarr it))) (recv := false) (i := .invokestatic 24) (a := 105) (na := 1) (z := 0) rfl (fun _ => rfl) rfl ml ⟨Nat.le_of_ble_eq_true rfl, Nat.le_of_ble_eq_true rfl, Nat.le_of_ble_eq_true rfl, Nat.le_of_ble_eq_true rfl, Nat.le_of_ble_eq_true rfl, Nat.le_of_ble_eq_true rfl, rfl⟩ ?_
          show yreach (ySt sc xm104) (yJm l D tA ex sc xm104) (_) (57, [(2, .inl (((i : Nat) : Int), ((i : Nat) : Int))), (0, .inr (.inr (1, 14))), (1, .inr (.inr (1, q)))], [.inl ((u : Int), (u : Int))], List.set (α := XC) w 15 (.inr (0, zarr it)), 0, 0)
          refine yreach.at (S' := (58, [(3, .inl ((u : Int), (u : Int))), (2, .inl (((i : Nat) : Int), ((i : Nat) : Int))), (0, .inr (.inr (1, 14))), (1, .inr (.inr (1, q)))], [], List.set (α := XC) w 15 (.inr (0, zarr it)), 0, 0)) (q := _) rfl rfl ?_
          refine yreach.at (S' := (59, [(3, .inl ((u : Int), (u : Int))), (2, .inl (((i : Nat) : Int), ((i : Nat) : Int))), (0, .inr (.inr (1, 14))), (1, .inr (.inr (1, q)))], [.inl ((u : Int), (u : Int))], List.set (α := XC) w 15 (.inr (0, zarr it)), 0, 0)) (q := _) rfl rfl ?_
          refine yreach.at (S' := (61, [(3, .inl ((u : Int), (u : Int))), (2, .inl (((i : Nat) : Int), ((i : Nat) : Int))), (0, .inr (.inr (1, 14))), (1, .inr (.inr (1, q)))], [.inl (-9, -9), .inl ((u : Int), (u : Int))], List.set (α := XC) w 15 (.inr (0, zarr it)), 0, 0)) (q := _) rfl rfl ?_
          refine yreach.at (S' := (66, [(3, .inl ((u : Int), (u : Int))), (2, .inl (((i : Nat) : Int), ((i : Nat) : Int))), (0, .inr (.inr (1, 14))), (1, .inr (.inr (1, q)))], [], List.set (α := XC) w 15 (.inr (0, zarr it)), 0, 0)) (q := _) rfl (sx_icmp (o := true) (zcmp xcne_of (decide_eq_true (by omega)))) ?_
          refine yreach.at (S' := (67, [(3, .inl ((u : Int), (u : Int))), (2, .inl (((i : Nat) : Int), ((i : Nat) : Int))), (0, .inr (.inr (1, 14))), (1, .inr (.inr (1, q)))], [.inr (.inr (1, q))], List.set (α := XC) w 15 (.inr (0, zarr it)), 0, 0)) (q := _) rfl rfl ?_
          refine yreach.at (S' := (68, [(3, .inl ((u : Int), (u : Int))), (2, .inl (((i : Nat) : Int), ((i : Nat) : Int))), (0, .inr (.inr (1, 14))), (1, .inr (.inr (1, q)))], [.inl (((i : Nat) : Int), ((i : Nat) : Int)), .inr (.inr (1, q))], List.set (α := XC) w 15 (.inr (0, zarr it)), 0, 0)) (q := _) rfl rfl ?_
          refine yreach.at (S' := (69, [(3, .inl ((u : Int), (u : Int))), (2, .inl (((i : Nat) : Int), ((i : Nat) : Int))), (0, .inr (.inr (1, 14))), (1, .inr (.inr (1, q)))], [.inl (1, 1), .inl (((i : Nat) : Int), ((i : Nat) : Int)), .inr (.inr (1, q))], List.set (α := XC) w 15 (.inr (0, zarr it)), 0, 0)) (q := _) rfl rfl ?_
          refine yreach.at (S' := (70, [(3, .inl ((u : Int), (u : Int))), (2, .inl (((i : Nat) : Int), ((i : Nat) : Int))), (0, .inr (.inr (1, 14))), (1, .inr (.inr (1, q)))], [.inl (((i + 1 : Nat) : Int), ((i + 1 : Nat) : Int)), .inr (.inr (1, q))], List.set (α := XC) w 15 (.inr (0, zarr it)), 0, 0)) (q := _) rfl (sx_bin rfl (zadd (by omega) (by omega))) ?_
          refine ycall_at (N := xm106) (ro := some (.inl (((i + 1 + d : Nat) : Int), ((i + 1 + d : Nat) : Int)))) (w' := List.set (α := XC) w 15 (.inr (0, zarr it))) (recv := false) (i := .invokestatic 28) (a := 106) (na := 2) (z := 0) rfl (fun _ => rfl) rfl md ⟨Nat.le_of_ble_eq_true rfl, Nat.le_of_ble_eq_true rfl, Nat.le_of_ble_eq_true rfl, Nat.le_of_ble_eq_true rfl, Nat.le_of_ble_eq_true rfl, Nat.le_of_ble_eq_true rfl, rfl⟩ ?_
          show yreach (ySt sc xm104) (yJm l D tA ex sc xm104) (_) (73, [(3, .inl ((u : Int), (u : Int))), (2, .inl (((i : Nat) : Int), ((i : Nat) : Int))), (0, .inr (.inr (1, 14))), (1, .inr (.inr (1, q)))], [.inl (((i + 1 + d : Nat) : Int), ((i + 1 + d : Nat) : Int))], List.set (α := XC) w 15 (.inr (0, zarr it)), 0, 0)
          refine yreach.at (S' := (75, [(4, .inl (((i + 1 + d : Nat) : Int), ((i + 1 + d : Nat) : Int))), (3, .inl ((u : Int), (u : Int))), (2, .inl (((i : Nat) : Int), ((i : Nat) : Int))), (0, .inr (.inr (1, 14))), (1, .inr (.inr (1, q)))], [], List.set (α := XC) w 15 (.inr (0, zarr it)), 0, 0)) (q := _) rfl rfl ?_
          refine yreach.at (S' := (77, [(4, .inl (((i + 1 + d : Nat) : Int), ((i + 1 + d : Nat) : Int))), (3, .inl ((u : Int), (u : Int))), (2, .inl (((i : Nat) : Int), ((i : Nat) : Int))), (0, .inr (.inr (1, 14))), (1, .inr (.inr (1, q)))], [.inl (((i + 1 + d : Nat) : Int), ((i + 1 + d : Nat) : Int))], List.set (α := XC) w 15 (.inr (0, zarr it)), 0, 0)) (q := _) rfl rfl ?_
          refine yreach.at (S' := (78, [(4, .inl (((i + 1 + d : Nat) : Int), ((i + 1 + d : Nat) : Int))), (3, .inl ((u : Int), (u : Int))), (2, .inl (((i : Nat) : Int), ((i : Nat) : Int))), (0, .inr (.inr (1, 14))), (1, .inr (.inr (1, q)))], [.inl (((i : Nat) : Int), ((i : Nat) : Int)), .inl (((i + 1 + d : Nat) : Int), ((i + 1 + d : Nat) : Int))], List.set (α := XC) w 15 (.inr (0, zarr it)), 0, 0)) (q := _) rfl rfl ?_
          refine yreach.at (S' := (79, [(4, .inl (((i + 1 + d : Nat) : Int), ((i + 1 + d : Nat) : Int))), (3, .inl ((u : Int), (u : Int))), (2, .inl (((i : Nat) : Int), ((i : Nat) : Int))), (0, .inr (.inr (1, 14))), (1, .inr (.inr (1, q)))], [.inl (1, 1), .inl (((i : Nat) : Int), ((i : Nat) : Int)), .inl (((i + 1 + d : Nat) : Int), ((i + 1 + d : Nat) : Int))], List.set (α := XC) w 15 (.inr (0, zarr it)), 0, 0)) (q := _) rfl rfl ?_
          refine yreach.at (S' := (80, [(4, .inl (((i + 1 + d : Nat) : Int), ((i + 1 + d : Nat) : Int))), (3, .inl ((u : Int), (u : Int))), (2, .inl (((i : Nat) : Int), ((i : Nat) : Int))), (0, .inr (.inr (1, 14))), (1, .inr (.inr (1, q)))], [.inl (((i + 1 : Nat) : Int), ((i + 1 : Nat) : Int)), .inl (((i + 1 + d : Nat) : Int), ((i + 1 + d : Nat) : Int))], List.set (α := XC) w 15 (.inr (0, zarr it)), 0, 0)) (q := _) rfl (sx_bin rfl (zadd (by omega) (by omega))) ?_
          refine yreach.at (S' := (86, [(4, .inl (((i + 1 + d : Nat) : Int), ((i + 1 + d : Nat) : Int))), (3, .inl ((u : Int), (u : Int))), (2, .inl (((i : Nat) : Int), ((i : Nat) : Int))), (0, .inr (.inr (1, 14))), (1, .inr (.inr (1, q)))], [], List.set (α := XC) w 15 (.inr (0, zarr it)), 0, 0)) (q := _) rfl (sx_icmp (o := true) (zcmp xcne_of (decide_eq_true (by omega)))) ?_
          refine yreach.at (S' := (87, [(4, .inl (((i + 1 + d : Nat) : Int), ((i + 1 + d : Nat) : Int))), (3, .inl ((u : Int), (u : Int))), (2, .inl (((i : Nat) : Int), ((i : Nat) : Int))), (0, .inr (.inr (1, 14))), (1, .inr (.inr (1, q)))], [.inr (.inr (1, q))], List.set (α := XC) w 15 (.inr (0, zarr it)), 0, 0)) (q := _) rfl rfl ?_
          refine yreach.at (S' := (88, [(4, .inl (((i + 1 + d : Nat) : Int), ((i + 1 + d : Nat) : Int))), (3, .inl ((u : Int), (u : Int))), (2, .inl (((i : Nat) : Int), ((i : Nat) : Int))), (0, .inr (.inr (1, 14))), (1, .inr (.inr (1, q)))], [.inl (((i : Nat) : Int), ((i : Nat) : Int)), .inr (.inr (1, q))], List.set (α := XC) w 15 (.inr (0, zarr it)), 0, 0)) (q := _) rfl rfl ?_
          refine yreach.at (S' := (89, [(4, .inl (((i + 1 + d : Nat) : Int), ((i + 1 + d : Nat) : Int))), (3, .inl ((u : Int), (u : Int))), (2, .inl (((i : Nat) : Int), ((i : Nat) : Int))), (0, .inr (.inr (1, 14))), (1, .inr (.inr (1, q)))], [.inl (1, 1), .inl (((i : Nat) : Int), ((i : Nat) : Int)), .inr (.inr (1, q))], List.set (α := XC) w 15 (.inr (0, zarr it)), 0, 0)) (q := _) rfl rfl ?_
          refine yreach.at (S' := (90, [(4, .inl (((i + 1 + d : Nat) : Int), ((i + 1 + d : Nat) : Int))), (3, .inl ((u : Int), (u : Int))), (2, .inl (((i : Nat) : Int), ((i : Nat) : Int))), (0, .inr (.inr (1, 14))), (1, .inr (.inr (1, q)))], [.inl (((i + 1 : Nat) : Int), ((i + 1 : Nat) : Int)), .inr (.inr (1, q))], List.set (α := XC) w 15 (.inr (0, zarr it)), 0, 0)) (q := _) rfl (sx_bin rfl (zadd (by omega) (by omega))) ?_
          refine yreach.at (S' := (92, [(4, .inl (((i + 1 + d : Nat) : Int), ((i + 1 + d : Nat) : Int))), (3, .inl ((u : Int), (u : Int))), (2, .inl (((i : Nat) : Int), ((i : Nat) : Int))), (0, .inr (.inr (1, 14))), (1, .inr (.inr (1, q)))], [.inl (((i + 1 + d : Nat) : Int), ((i + 1 + d : Nat) : Int)), .inl (((i + 1 : Nat) : Int), ((i + 1 : Nat) : Int)), .inr (.inr (1, q))], List.set (α := XC) w 15 (.inr (0, zarr it)), 0, 0)) (q := _) rfl rfl ?_
          refine ycall_at (N := xm107) (ro := some (.inl (n, n))) (w' := List.set (α := XC) w 15 (.inr (0, zarr it))) (recv := false) (i := .invokestatic 32) (a := 107) (na := 3) (z := 0) rfl (fun _ => rfl) rfl mn ⟨Nat.le_of_ble_eq_true rfl, Nat.le_of_ble_eq_true rfl, Nat.le_of_ble_eq_true rfl, Nat.le_of_ble_eq_true rfl, Nat.le_of_ble_eq_true rfl, Nat.le_of_ble_eq_true rfl, rfl⟩ ?_
          show yreach (ySt sc xm104) (yJm l D tA ex sc xm104) (_) (95, [(4, .inl (((i + 1 + d : Nat) : Int), ((i + 1 + d : Nat) : Int))), (3, .inl ((u : Int), (u : Int))), (2, .inl (((i : Nat) : Int), ((i : Nat) : Int))), (0, .inr (.inr (1, 14))), (1, .inr (.inr (1, q)))], [.inl (n, n)], List.set (α := XC) w 15 (.inr (0, zarr it)), 0, 0)
          refine yreach.at (S' := (97, [(5, .inl (n, n)), (4, .inl (((i + 1 + d : Nat) : Int), ((i + 1 + d : Nat) : Int))), (3, .inl ((u : Int), (u : Int))), (2, .inl (((i : Nat) : Int), ((i : Nat) : Int))), (0, .inr (.inr (1, 14))), (1, .inr (.inr (1, q)))], [], List.set (α := XC) w 15 (.inr (0, zarr it)), 0, 0)) (q := _) rfl rfl ?_
          refine yreach.at (S' := (99, [(5, .inl (n, n)), (4, .inl (((i + 1 + d : Nat) : Int), ((i + 1 + d : Nat) : Int))), (3, .inl ((u : Int), (u : Int))), (2, .inl (((i : Nat) : Int), ((i : Nat) : Int))), (0, .inr (.inr (1, 14))), (1, .inr (.inr (1, q)))], [.inl (n, n)], List.set (α := XC) w 15 (.inr (0, zarr it)), 0, 0)) (q := _) rfl rfl ?_
          refine yreach.at (S' := (102, [(5, .inl (n, n)), (4, .inl (((i + 1 + d : Nat) : Int), ((i + 1 + d : Nat) : Int))), (3, .inl ((u : Int), (u : Int))), (2, .inl (((i : Nat) : Int), ((i : Nat) : Int))), (0, .inr (.inr (1, 14))), (1, .inr (.inr (1, q)))], [], List.set (α := XC) w 15 (.inr (0, zarr it)), 0, 0)) (q := _) rfl (sx_if (o := false) (zcmp xcne_of (decide_eq_false (by omega)))) ?_
          refine yreach.at (S' := (103, [(5, .inl (n, n)), (4, .inl (((i + 1 + d : Nat) : Int), ((i + 1 + d : Nat) : Int))), (3, .inl ((u : Int), (u : Int))), (2, .inl (((i : Nat) : Int), ((i : Nat) : Int))), (0, .inr (.inr (1, 14))), (1, .inr (.inr (1, q)))], [.inl ((u : Int), (u : Int))], List.set (α := XC) w 15 (.inr (0, zarr it)), 0, 0)) (q := _) rfl rfl ?_
          refine yreach.at (S' := (104, [(5, .inl (n, n)), (4, .inl (((i + 1 + d : Nat) : Int), ((i + 1 + d : Nat) : Int))), (3, .inl ((u : Int), (u : Int))), (2, .inl (((i : Nat) : Int), ((i : Nat) : Int))), (0, .inr (.inr (1, 14))), (1, .inr (.inr (1, q)))], [.inl (2, 2), .inl ((u : Int), (u : Int))], List.set (α := XC) w 15 (.inr (0, zarr it)), 0, 0)) (q := _) rfl rfl ?_
          refine yreach.at (S' := (112, [(5, .inl (n, n)), (4, .inl (((i + 1 + d : Nat) : Int), ((i + 1 + d : Nat) : Int))), (3, .inl ((u : Int), (u : Int))), (2, .inl (((i : Nat) : Int), ((i : Nat) : Int))), (0, .inr (.inr (1, 14))), (1, .inr (.inr (1, q)))], [], List.set (α := XC) w 15 (.inr (0, zarr it)), 0, 0)) (q := _) rfl (sx_icmp (o := true) (zcmp xceq_of (decide_eq_true (by omega)))) ?_
          refine yreach.at (S' := (114, [(5, .inl (n, n)), (4, .inl (((i + 1 + d : Nat) : Int), ((i + 1 + d : Nat) : Int))), (3, .inl ((u : Int), (u : Int))), (2, .inl (((i : Nat) : Int), ((i : Nat) : Int))), (0, .inr (.inr (1, 14))), (1, .inr (.inr (1, q)))], [.inl (((i + 1 + d : Nat) : Int), ((i + 1 + d : Nat) : Int))], List.set (α := XC) w 15 (.inr (0, zarr it)), 0, 0)) (q := _) rfl rfl ?_
          exact yreach.ret (q := (some (.inl (((i + 1 + d : Nat) : Int), ((i + 1 + d : Nat) : Int))), List.set (α := XC) w 15 (.inr (0, zarr it)), 0, 0)) ((xstep_at rfl).trans rfl) rfl
        · refine yreach.at (S' := (24, [(2, .inl (((i : Nat) : Int), ((i : Nat) : Int))), (0, .inr (.inr (1, 14))), (1, .inr (.inr (1, q)))], [.inl (((i : Nat) : Int), ((i : Nat) : Int))], List.set (α := XC) w 15 (.inr (0, zarr it)), 0, 0)) (q := _) rfl rfl ?_
          refine yreach.at (S' := (25, [(2, .inl (((i : Nat) : Int), ((i : Nat) : Int))), (0, .inr (.inr (1, 14))), (1, .inr (.inr (1, q)))], [.inr (.inr (1, q)), .inl (((i : Nat) : Int), ((i : Nat) : Int))], List.set (α := XC) w 15 (.inr (0, zarr it)), 0, 0)) (q := _) rfl rfl ?_
          refine yreach.at (S' := (28, [(2, .inl (((i : Nat) : Int), ((i : Nat) : Int))), (0, .inr (.inr (1, 14))), (1, .inr (.inr (1, q)))], [.inl ((L.length : Int), (L.length : Int)), .inl (((i : Nat) : Int), ((i : Nat) : Int))], List.set (α := XC) w 15 (.inr (0, zarr it)), 0, 0)) (q := _) rfl (sx_get hwq rfl) ?_
          refine yreach.at (S' := (31, [(2, .inl (((i : Nat) : Int), ((i : Nat) : Int))), (0, .inr (.inr (1, 14))), (1, .inr (.inr (1, q)))], [], List.set (α := XC) w 15 (.inr (0, zarr it)), 0, 0)) (q := _) rfl (sx_icmp (o := false) (zcmp xge_of (decide_eq_false (by omega)))) ?_
          refine yreach.at (S' := (32, [(2, .inl (((i : Nat) : Int), ((i : Nat) : Int))), (0, .inr (.inr (1, 14))), (1, .inr (.inr (1, q)))], [.inr (.inr (1, q))], List.set (α := XC) w 15 (.inr (0, zarr it)), 0, 0)) (q := _) rfl rfl ?_
          refine yreach.at (S' := (35, [(2, .inl (((i : Nat) : Int), ((i : Nat) : Int))), (0, .inr (.inr (1, 14))), (1, .inr (.inr (1, q)))], [.inr (.inr (1, p))], List.set (α := XC) w 15 (.inr (0, zarr it)), 0, 0)) (q := _) rfl (sx_get hwq rfl) ?_
          refine yreach.at (S' := (36, [(2, .inl (((i : Nat) : Int), ((i : Nat) : Int))), (0, .inr (.inr (1, 14))), (1, .inr (.inr (1, q)))], [.inl (((i : Nat) : Int), ((i : Nat) : Int)), .inr (.inr (1, p))], List.set (α := XC) w 15 (.inr (0, zarr it)), 0, 0)) (q := _) rfl rfl ?_
          refine yreach.at (S' := (37, [(2, .inl (((i : Nat) : Int), ((i : Nat) : Int))), (0, .inr (.inr (1, 14))), (1, .inr (.inr (1, q)))], [.inl (v, v)], List.set (α := XC) w 15 (.inr (0, zarr it)), 0, 0)) (q := _) rfl (sx_iald hwp (zread h2)) ?_
          refine yreach.at (S' := (39, [(2, .inl (((i : Nat) : Int), ((i : Nat) : Int))), (0, .inr (.inr (1, 14))), (1, .inr (.inr (1, q)))], [.inl (32, 32), .inl (v, v)], List.set (α := XC) w 15 (.inr (0, zarr it)), 0, 0)) (q := _) rfl rfl ?_
          refine yreach.at (S' := (48, [(2, .inl (((i : Nat) : Int), ((i : Nat) : Int))), (0, .inr (.inr (1, 14))), (1, .inr (.inr (1, q)))], [], List.set (α := XC) w 15 (.inr (0, zarr it)), 0, 0)) (q := _) rfl (sx_icmp (o := true) (zcmp xcne_of (decide_eq_true (by omega)))) ?_
          refine yreach.at (S' := (49, [(2, .inl (((i : Nat) : Int), ((i : Nat) : Int))), (0, .inr (.inr (1, 14))), (1, .inr (.inr (1, q)))], [.inr (.inr (1, q))], List.set (α := XC) w 15 (.inr (0, zarr it)), 0, 0)) (q := _) rfl rfl ?_
          refine yreach.at (S' := (52, [(2, .inl (((i : Nat) : Int), ((i : Nat) : Int))), (0, .inr (.inr (1, 14))), (1, .inr (.inr (1, q)))], [.inr (.inr (1, p))], List.set (α := XC) w 15 (.inr (0, zarr it)), 0, 0)) (q := _) rfl (sx_get hwq rfl) ?_
          refine yreach.at (S' := (53, [(2, .inl (((i : Nat) : Int), ((i : Nat) : Int))), (0, .inr (.inr (1, 14))), (1, .inr (.inr (1, q)))], [.inl (((i : Nat) : Int), ((i : Nat) : Int)), .inr (.inr (1, p))], List.set (α := XC) w 15 (.inr (0, zarr it)), 0, 0)) (q := _) rfl rfl ?_
          refine yreach.at (S' := (54, [(2, .inl (((i : Nat) : Int), ((i : Nat) : Int))), (0, .inr (.inr (1, 14))), (1, .inr (.inr (1, q)))], [.inl (v, v)], List.set (α := XC) w 15 (.inr (0, zarr it)), 0, 0)) (q := _) rfl (sx_iald hwp (zread h2)) ?_
          refine ycall_at (N := xm105) (ro := some (.inl ((u : Int), (u : Int)))) (w' := List.set (α := XC) w 15 (.inr (0, zarr it))) (recv := false) (i := .invokestatic 24) (a := 105) (na := 1) (z := 0) rfl (fun _ => rfl) rfl ml ⟨Nat.le_of_ble_eq_true rfl, Nat.le_of_ble_eq_true rfl, Nat.le_of_ble_eq_true rfl, Nat.le_of_ble_eq_true rfl, Nat.le_of_ble_eq_true rfl, Nat.le_of_ble_eq_true rfl, rfl⟩ ?_
          show yreach (ySt sc xm104) (yJm l D tA ex sc xm104) (_) (57, [(2, .inl (((i : Nat) : Int), ((i : Nat) : Int))), (0, .inr (.inr (1, 14))), (1, .inr (.inr (1, q)))], [.inl ((u : Int), (u : Int))], List.set (α := XC) w 15 (.inr (0, zarr it)), 0, 0)
          refine yreach.at (S' := (58, [(3, .inl ((u : Int), (u : Int))), (2, .inl (((i : Nat) : Int), ((i : Nat) : Int))), (0, .inr (.inr (1, 14))), (1, .inr (.inr (1, q)))], [], List.set (α := XC) w 15 (.inr (0, zarr it)), 0, 0)) (q := _) rfl rfl ?_
          refine yreach.at (S' := (59, [(3, .inl ((u : Int), (u : Int))), (2, .inl (((i : Nat) : Int), ((i : Nat) : Int))), (0, .inr (.inr (1, 14))), (1, .inr (.inr (1, q)))], [.inl ((u : Int), (u : Int))], List.set (α := XC) w 15 (.inr (0, zarr it)), 0, 0)) (q := _) rfl rfl ?_
          refine yreach.at (S' := (61, [(3, .inl ((u : Int), (u : Int))), (2, .inl (((i : Nat) : Int), ((i : Nat) : Int))), (0, .inr (.inr (1, 14))), (1, .inr (.inr (1, q)))], [.inl (-9, -9), .inl ((u : Int), (u : Int))], List.set (α := XC) w 15 (.inr (0, zarr it)), 0, 0)) (q := _) rfl rfl ?_
          refine yreach.at (S' := (66, [(3, .inl ((u : Int), (u : Int))), (2, .inl (((i : Nat) : Int), ((i : Nat) : Int))), (0, .inr (.inr (1, 14))), (1, .inr (.inr (1, q)))], [], List.set (α := XC) w 15 (.inr (0, zarr it)), 0, 0)) (q := _) rfl (sx_icmp (o := true) (zcmp xcne_of (decide_eq_true (by omega)))) ?_
          refine yreach.at (S' := (67, [(3, .inl ((u : Int), (u : Int))), (2, .inl (((i : Nat) : Int), ((i : Nat) : Int))), (0, .inr (.inr (1, 14))), (1, .inr (.inr (1, q)))], [.inr (.inr (1, q))], List.set (α := XC) w 15 (.inr (0, zarr it)), 0, 0)) (q := _) rfl rfl ?_
          refine yreach.at (S' := (68, [(3, .inl ((u : Int), (u : Int))), (2, .inl (((i : Nat) : Int), ((i : Nat) : Int))), (0, .inr (.inr (1, 14))), (1, .inr (.inr (1, q)))], [.inl (((i : Nat) : Int), ((i : Nat) : Int)), .inr (.inr (1, q))], List.set (α := XC) w 15 (.inr (0, zarr it)), 0, 0)) (q := _) rfl rfl ?_
          refine yreach.at (S' := (69, [(3, .inl ((u : Int), (u : Int))), (2, .inl (((i : Nat) : Int), ((i : Nat) : Int))), (0, .inr (.inr (1, 14))), (1, .inr (.inr (1, q)))], [.inl (1, 1), .inl (((i : Nat) : Int), ((i : Nat) : Int)), .inr (.inr (1, q))], List.set (α := XC) w 15 (.inr (0, zarr it)), 0, 0)) (q := _) rfl rfl ?_
          refine yreach.at (S' := (70, [(3, .inl ((u : Int), (u : Int))), (2, .inl (((i : Nat) : Int), ((i : Nat) : Int))), (0, .inr (.inr (1, 14))), (1, .inr (.inr (1, q)))], [.inl (((i + 1 : Nat) : Int), ((i + 1 : Nat) : Int)), .inr (.inr (1, q))], List.set (α := XC) w 15 (.inr (0, zarr it)), 0, 0)) (q := _) rfl (sx_bin rfl (zadd (by omega) (by omega))) ?_
          refine ycall_at (N := xm106) (ro := some (.inl (((i + 1 + d : Nat) : Int), ((i + 1 + d : Nat) : Int)))) (w' := List.set (α := XC) w 15 (.inr (0, zarr it))) (recv := false) (i := .invokestatic 28) (a := 106) (na := 2) (z := 0) rfl (fun _ => rfl) rfl md ⟨Nat.le_of_ble_eq_true rfl, Nat.le_of_ble_eq_true rfl, Nat.le_of_ble_eq_true rfl, Nat.le_of_ble_eq_true rfl, Nat.le_of_ble_eq_true rfl, Nat.le_of_ble_eq_true rfl, rfl⟩ ?_
          show yreach (ySt sc xm104) (yJm l D tA ex sc xm104) (_) (73, [(3, .inl ((u : Int), (u : Int))), (2, .inl (((i : Nat) : Int), ((i : Nat) : Int))), (0, .inr (.inr (1, 14))), (1, .inr (.inr (1, q)))], [.inl (((i + 1 + d : Nat) : Int), ((i + 1 + d : Nat) : Int))], List.set (α := XC) w 15 (.inr (0, zarr it)), 0, 0)
          refine yreach.at (S' := (75, [(4, .inl (((i + 1 + d : Nat) : Int), ((i + 1 + d : Nat) : Int))), (3, .inl ((u : Int), (u : Int))), (2, .inl (((i : Nat) : Int), ((i : Nat) : Int))), (0, .inr (.inr (1, 14))), (1, .inr (.inr (1, q)))], [], List.set (α := XC) w 15 (.inr (0, zarr it)), 0, 0)) (q := _) rfl rfl ?_
          refine yreach.at (S' := (77, [(4, .inl (((i + 1 + d : Nat) : Int), ((i + 1 + d : Nat) : Int))), (3, .inl ((u : Int), (u : Int))), (2, .inl (((i : Nat) : Int), ((i : Nat) : Int))), (0, .inr (.inr (1, 14))), (1, .inr (.inr (1, q)))], [.inl (((i + 1 + d : Nat) : Int), ((i + 1 + d : Nat) : Int))], List.set (α := XC) w 15 (.inr (0, zarr it)), 0, 0)) (q := _) rfl rfl ?_
          refine yreach.at (S' := (78, [(4, .inl (((i + 1 + d : Nat) : Int), ((i + 1 + d : Nat) : Int))), (3, .inl ((u : Int), (u : Int))), (2, .inl (((i : Nat) : Int), ((i : Nat) : Int))), (0, .inr (.inr (1, 14))), (1, .inr (.inr (1, q)))], [.inl (((i : Nat) : Int), ((i : Nat) : Int)), .inl (((i + 1 + d : Nat) : Int), ((i + 1 + d : Nat) : Int))], List.set (α := XC) w 15 (.inr (0, zarr it)), 0, 0)) (q := _) rfl rfl ?_
          refine yreach.at (S' := (79, [(4, .inl (((i + 1 + d : Nat) : Int), ((i + 1 + d : Nat) : Int))), (3, .inl ((u : Int), (u : Int))), (2, .inl (((i : Nat) : Int), ((i : Nat) : Int))), (0, .inr (.inr (1, 14))), (1, .inr (.inr (1, q)))], [.inl (1, 1), .inl (((i : Nat) : Int), ((i : Nat) : Int)), .inl (((i + 1 + d : Nat) : Int), ((i + 1 + d : Nat) : Int))], List.set (α := XC) w 15 (.inr (0, zarr it)), 0, 0)) (q := _) rfl rfl ?_
          refine yreach.at (S' := (80, [(4, .inl (((i + 1 + d : Nat) : Int), ((i + 1 + d : Nat) : Int))), (3, .inl ((u : Int), (u : Int))), (2, .inl (((i : Nat) : Int), ((i : Nat) : Int))), (0, .inr (.inr (1, 14))), (1, .inr (.inr (1, q)))], [.inl (((i + 1 : Nat) : Int), ((i + 1 : Nat) : Int)), .inl (((i + 1 + d : Nat) : Int), ((i + 1 + d : Nat) : Int))], List.set (α := XC) w 15 (.inr (0, zarr it)), 0, 0)) (q := _) rfl (sx_bin rfl (zadd (by omega) (by omega))) ?_
          refine yreach.at (S' := (86, [(4, .inl (((i + 1 + d : Nat) : Int), ((i + 1 + d : Nat) : Int))), (3, .inl ((u : Int), (u : Int))), (2, .inl (((i : Nat) : Int), ((i : Nat) : Int))), (0, .inr (.inr (1, 14))), (1, .inr (.inr (1, q)))], [], List.set (α := XC) w 15 (.inr (0, zarr it)), 0, 0)) (q := _) rfl (sx_icmp (o := true) (zcmp xcne_of (decide_eq_true (by omega)))) ?_
          refine yreach.at (S' := (87, [(4, .inl (((i + 1 + d : Nat) : Int), ((i + 1 + d : Nat) : Int))), (3, .inl ((u : Int), (u : Int))), (2, .inl (((i : Nat) : Int), ((i : Nat) : Int))), (0, .inr (.inr (1, 14))), (1, .inr (.inr (1, q)))], [.inr (.inr (1, q))], List.set (α := XC) w 15 (.inr (0, zarr it)), 0, 0)) (q := _) rfl rfl ?_
          refine yreach.at (S' := (88, [(4, .inl (((i + 1 + d : Nat) : Int), ((i + 1 + d : Nat) : Int))), (3, .inl ((u : Int), (u : Int))), (2, .inl (((i : Nat) : Int), ((i : Nat) : Int))), (0, .inr (.inr (1, 14))), (1, .inr (.inr (1, q)))], [.inl (((i : Nat) : Int), ((i : Nat) : Int)), .inr (.inr (1, q))], List.set (α := XC) w 15 (.inr (0, zarr it)), 0, 0)) (q := _) rfl rfl ?_
          refine yreach.at (S' := (89, [(4, .inl (((i + 1 + d : Nat) : Int), ((i + 1 + d : Nat) : Int))), (3, .inl ((u : Int), (u : Int))), (2, .inl (((i : Nat) : Int), ((i : Nat) : Int))), (0, .inr (.inr (1, 14))), (1, .inr (.inr (1, q)))], [.inl (1, 1), .inl (((i : Nat) : Int), ((i : Nat) : Int)), .inr (.inr (1, q))], List.set (α := XC) w 15 (.inr (0, zarr it)), 0, 0)) (q := _) rfl rfl ?_
          refine yreach.at (S' := (90, [(4, .inl (((i + 1 + d : Nat) : Int), ((i + 1 + d : Nat) : Int))), (3, .inl ((u : Int), (u : Int))), (2, .inl (((i : Nat) : Int), ((i : Nat) : Int))), (0, .inr (.inr (1, 14))), (1, .inr (.inr (1, q)))], [.inl (((i + 1 : Nat) : Int), ((i + 1 : Nat) : Int)), .inr (.inr (1, q))], List.set (α := XC) w 15 (.inr (0, zarr it)), 0, 0)) (q := _) rfl (sx_bin rfl (zadd (by omega) (by omega))) ?_
          refine yreach.at (S' := (92, [(4, .inl (((i + 1 + d : Nat) : Int), ((i + 1 + d : Nat) : Int))), (3, .inl ((u : Int), (u : Int))), (2, .inl (((i : Nat) : Int), ((i : Nat) : Int))), (0, .inr (.inr (1, 14))), (1, .inr (.inr (1, q)))], [.inl (((i + 1 + d : Nat) : Int), ((i + 1 + d : Nat) : Int)), .inl (((i + 1 : Nat) : Int), ((i + 1 : Nat) : Int)), .inr (.inr (1, q))], List.set (α := XC) w 15 (.inr (0, zarr it)), 0, 0)) (q := _) rfl rfl ?_
          refine ycall_at (N := xm107) (ro := some (.inl (n, n))) (w' := List.set (α := XC) w 15 (.inr (0, zarr it))) (recv := false) (i := .invokestatic 32) (a := 107) (na := 3) (z := 0) rfl (fun _ => rfl) rfl mn ⟨Nat.le_of_ble_eq_true rfl, Nat.le_of_ble_eq_true rfl, Nat.le_of_ble_eq_true rfl, Nat.le_of_ble_eq_true rfl, Nat.le_of_ble_eq_true rfl, Nat.le_of_ble_eq_true rfl, rfl⟩ ?_
          show yreach (ySt sc xm104) (yJm l D tA ex sc xm104) (_) (95, [(4, .inl (((i + 1 + d : Nat) : Int), ((i + 1 + d : Nat) : Int))), (3, .inl ((u : Int), (u : Int))), (2, .inl (((i : Nat) : Int), ((i : Nat) : Int))), (0, .inr (.inr (1, 14))), (1, .inr (.inr (1, q)))], [.inl (n, n)], List.set (α := XC) w 15 (.inr (0, zarr it)), 0, 0)
          refine yreach.at (S' := (97, [(5, .inl (n, n)), (4, .inl (((i + 1 + d : Nat) : Int), ((i + 1 + d : Nat) : Int))), (3, .inl ((u : Int), (u : Int))), (2, .inl (((i : Nat) : Int), ((i : Nat) : Int))), (0, .inr (.inr (1, 14))), (1, .inr (.inr (1, q)))], [], List.set (α := XC) w 15 (.inr (0, zarr it)), 0, 0)) (q := _) rfl rfl ?_
          refine yreach.at (S' := (99, [(5, .inl (n, n)), (4, .inl (((i + 1 + d : Nat) : Int), ((i + 1 + d : Nat) : Int))), (3, .inl ((u : Int), (u : Int))), (2, .inl (((i : Nat) : Int), ((i : Nat) : Int))), (0, .inr (.inr (1, 14))), (1, .inr (.inr (1, q)))], [.inl (n, n)], List.set (α := XC) w 15 (.inr (0, zarr it)), 0, 0)) (q := _) rfl rfl ?_
          refine yreach.at (S' := (102, [(5, .inl (n, n)), (4, .inl (((i + 1 + d : Nat) : Int), ((i + 1 + d : Nat) : Int))), (3, .inl ((u : Int), (u : Int))), (2, .inl (((i : Nat) : Int), ((i : Nat) : Int))), (0, .inr (.inr (1, 14))), (1, .inr (.inr (1, q)))], [], List.set (α := XC) w 15 (.inr (0, zarr it)), 0, 0)) (q := _) rfl (sx_if (o := false) (zcmp xcne_of (decide_eq_false (by omega)))) ?_
          refine yreach.at (S' := (103, [(5, .inl (n, n)), (4, .inl (((i + 1 + d : Nat) : Int), ((i + 1 + d : Nat) : Int))), (3, .inl ((u : Int), (u : Int))), (2, .inl (((i : Nat) : Int), ((i : Nat) : Int))), (0, .inr (.inr (1, 14))), (1, .inr (.inr (1, q)))], [.inl ((u : Int), (u : Int))], List.set (α := XC) w 15 (.inr (0, zarr it)), 0, 0)) (q := _) rfl rfl ?_
          refine yreach.at (S' := (104, [(5, .inl (n, n)), (4, .inl (((i + 1 + d : Nat) : Int), ((i + 1 + d : Nat) : Int))), (3, .inl ((u : Int), (u : Int))), (2, .inl (((i : Nat) : Int), ((i : Nat) : Int))), (0, .inr (.inr (1, 14))), (1, .inr (.inr (1, q)))], [.inl (2, 2), .inl ((u : Int), (u : Int))], List.set (α := XC) w 15 (.inr (0, zarr it)), 0, 0)) (q := _) rfl rfl ?_
          refine yreach.at (S' := (107, [(5, .inl (n, n)), (4, .inl (((i + 1 + d : Nat) : Int), ((i + 1 + d : Nat) : Int))), (3, .inl ((u : Int), (u : Int))), (2, .inl (((i : Nat) : Int), ((i : Nat) : Int))), (0, .inr (.inr (1, 14))), (1, .inr (.inr (1, q)))], [], List.set (α := XC) w 15 (.inr (0, zarr it)), 0, 0)) (q := _) rfl (sx_icmp (o := false) (zcmp xceq_of (decide_eq_false (by omega)))) ?_
          refine yreach.at (S' := (108, [(5, .inl (n, n)), (4, .inl (((i + 1 + d : Nat) : Int), ((i + 1 + d : Nat) : Int))), (3, .inl ((u : Int), (u : Int))), (2, .inl (((i : Nat) : Int), ((i : Nat) : Int))), (0, .inr (.inr (1, 14))), (1, .inr (.inr (1, q)))], [.inl ((u : Int), (u : Int))], List.set (α := XC) w 15 (.inr (0, zarr it)), 0, 0)) (q := _) rfl rfl ?_
          refine yreach.at (S' := (109, [(5, .inl (n, n)), (4, .inl (((i + 1 + d : Nat) : Int), ((i + 1 + d : Nat) : Int))), (3, .inl ((u : Int), (u : Int))), (2, .inl (((i : Nat) : Int), ((i : Nat) : Int))), (0, .inr (.inr (1, 14))), (1, .inr (.inr (1, q)))], [.inl (3, 3), .inl ((u : Int), (u : Int))], List.set (α := XC) w 15 (.inr (0, zarr it)), 0, 0)) (q := _) rfl rfl ?_
          refine yreach.at (S' := (112, [(5, .inl (n, n)), (4, .inl (((i + 1 + d : Nat) : Int), ((i + 1 + d : Nat) : Int))), (3, .inl ((u : Int), (u : Int))), (2, .inl (((i : Nat) : Int), ((i : Nat) : Int))), (0, .inr (.inr (1, 14))), (1, .inr (.inr (1, q)))], [], List.set (α := XC) w 15 (.inr (0, zarr it)), 0, 0)) (q := _) rfl (sx_icmp (o := false) (zcmp xcne_of (decide_eq_false (by omega)))) ?_
          refine yreach.at (S' := (114, [(5, .inl (n, n)), (4, .inl (((i + 1 + d : Nat) : Int), ((i + 1 + d : Nat) : Int))), (3, .inl ((u : Int), (u : Int))), (2, .inl (((i : Nat) : Int), ((i : Nat) : Int))), (0, .inr (.inr (1, 14))), (1, .inr (.inr (1, q)))], [.inl (((i + 1 + d : Nat) : Int), ((i + 1 + d : Nat) : Int))], List.set (α := XC) w 15 (.inr (0, zarr it)), 0, 0)) (q := _) rfl rfl ?_
          exact yreach.ret (q := (some (.inl (((i + 1 + d : Nat) : Int), ((i + 1 + d : Nat) : Int))), List.set (α := XC) w 15 (.inr (0, zarr it)), 0, 0)) ((xstep_at rfl).trans rfl) rfl
      · rw [if_neg hbad]
        have hit2 : zIt (it.set u n) := ⟨by rw [List.length_set]; exact hit.1, fun x hx => by
          rcases List.mem_or_eq_of_mem_set hx with hx | hx
          · exact hit.2 x hx
          · omega⟩
        have fin := ih (i + 1 + d) (it.set u n) hit2 (by omega) (by omega)
        by_cases hn0 : n = 0
        · by_cases hu2 : u = 2
          · omega
          by_cases hu3 : u = 3
          · omega
          refine yreach.at (S' := (24, [(2, .inl (((i : Nat) : Int), ((i : Nat) : Int))), (0, .inr (.inr (1, 14))), (1, .inr (.inr (1, q)))], [.inl (((i : Nat) : Int), ((i : Nat) : Int))], List.set (α := XC) w 15 (.inr (0, zarr it)), 0, 0)) (q := _) rfl rfl ?_
          refine yreach.at (S' := (25, [(2, .inl (((i : Nat) : Int), ((i : Nat) : Int))), (0, .inr (.inr (1, 14))), (1, .inr (.inr (1, q)))], [.inr (.inr (1, q)), .inl (((i : Nat) : Int), ((i : Nat) : Int))], List.set (α := XC) w 15 (.inr (0, zarr it)), 0, 0)) (q := _) rfl rfl ?_
          refine yreach.at (S' := (28, [(2, .inl (((i : Nat) : Int), ((i : Nat) : Int))), (0, .inr (.inr (1, 14))), (1, .inr (.inr (1, q)))], [.inl ((L.length : Int), (L.length : Int)), .inl (((i : Nat) : Int), ((i : Nat) : Int))], List.set (α := XC) w 15 (.inr (0, zarr it)), 0, 0)) (q := _) rfl (sx_get hwq rfl) ?_
          refine yreach.at (S' := (31, [(2, .inl (((i : Nat) : Int), ((i : Nat) : Int))), (0, .inr (.inr (1, 14))), (1, .inr (.inr (1, q)))], [], List.set (α := XC) w 15 (.inr (0, zarr it)), 0, 0)) (q := _) rfl (sx_icmp (o := false) (zcmp xge_of (decide_eq_false (by omega)))) ?_
          refine yreach.at (S' := (32, [(2, .inl (((i : Nat) : Int), ((i : Nat) : Int))), (0, .inr (.inr (1, 14))), (1, .inr (.inr (1, q)))], [.inr (.inr (1, q))], List.set (α := XC) w 15 (.inr (0, zarr it)), 0, 0)) (q := _) rfl rfl ?_
          refine yreach.at (S' := (35, [(2, .inl (((i : Nat) : Int), ((i : Nat) : Int))), (0, .inr (.inr (1, 14))), (1, .inr (.inr (1, q)))], [.inr (.inr (1, p))], List.set (α := XC) w 15 (.inr (0, zarr it)), 0, 0)) (q := _) rfl (sx_get hwq rfl) ?_
          refine yreach.at (S' := (36, [(2, .inl (((i : Nat) : Int), ((i : Nat) : Int))), (0, .inr (.inr (1, 14))), (1, .inr (.inr (1, q)))], [.inl (((i : Nat) : Int), ((i : Nat) : Int)), .inr (.inr (1, p))], List.set (α := XC) w 15 (.inr (0, zarr it)), 0, 0)) (q := _) rfl rfl ?_
          refine yreach.at (S' := (37, [(2, .inl (((i : Nat) : Int), ((i : Nat) : Int))), (0, .inr (.inr (1, 14))), (1, .inr (.inr (1, q)))], [.inl (v, v)], List.set (α := XC) w 15 (.inr (0, zarr it)), 0, 0)) (q := _) rfl (sx_iald hwp (zread h2)) ?_
          refine yreach.at (S' := (39, [(2, .inl (((i : Nat) : Int), ((i : Nat) : Int))), (0, .inr (.inr (1, 14))), (1, .inr (.inr (1, q)))], [.inl (32, 32), .inl (v, v)], List.set (α := XC) w 15 (.inr (0, zarr it)), 0, 0)) (q := _) rfl rfl ?_
          refine yreach.at (S' := (48, [(2, .inl (((i : Nat) : Int), ((i : Nat) : Int))), (0, .inr (.inr (1, 14))), (1, .inr (.inr (1, q)))], [], List.set (α := XC) w 15 (.inr (0, zarr it)), 0, 0)) (q := _) rfl (sx_icmp (o := true) (zcmp xcne_of (decide_eq_true (by omega)))) ?_
          refine yreach.at (S' := (49, [(2, .inl (((i : Nat) : Int), ((i : Nat) : Int))), (0, .inr (.inr (1, 14))), (1, .inr (.inr (1, q)))], [.inr (.inr (1, q))], List.set (α := XC) w 15 (.inr (0, zarr it)), 0, 0)) (q := _) rfl rfl ?_
          refine yreach.at (S' := (52, [(2, .inl (((i : Nat) : Int), ((i : Nat) : Int))), (0, .inr (.inr (1, 14))), (1, .inr (.inr (1, q)))], [.inr (.inr (1, p))], List.set (α := XC) w 15 (.inr (0, zarr it)), 0, 0)) (q := _) rfl (sx_get hwq rfl) ?_
          refine yreach.at (S' := (53, [(2, .inl (((i : Nat) : Int), ((i : Nat) : Int))), (0, .inr (.inr (1, 14))), (1, .inr (.inr (1, q)))], [.inl (((i : Nat) : Int), ((i : Nat) : Int)), .inr (.inr (1, p))], List.set (α := XC) w 15 (.inr (0, zarr it)), 0, 0)) (q := _) rfl rfl ?_
          refine yreach.at (S' := (54, [(2, .inl (((i : Nat) : Int), ((i : Nat) : Int))), (0, .inr (.inr (1, 14))), (1, .inr (.inr (1, q)))], [.inl (v, v)], List.set (α := XC) w 15 (.inr (0, zarr it)), 0, 0)) (q := _) rfl (sx_iald hwp (zread h2)) ?_
          refine ycall_at (N := xm105) (ro := some (.inl ((u : Int), (u : Int)))) (w' := List.set (α := XC) w 15 (.inr (0, zarr it))) (recv := false) (i := .invokestatic 24) (a := 105) (na := 1) (z := 0) rfl (fun _ => rfl) rfl ml ⟨Nat.le_of_ble_eq_true rfl, Nat.le_of_ble_eq_true rfl, Nat.le_of_ble_eq_true rfl, Nat.le_of_ble_eq_true rfl, Nat.le_of_ble_eq_true rfl, Nat.le_of_ble_eq_true rfl, rfl⟩ ?_
          show yreach (ySt sc xm104) (yJm l D tA ex sc xm104) (_) (57, [(2, .inl (((i : Nat) : Int), ((i : Nat) : Int))), (0, .inr (.inr (1, 14))), (1, .inr (.inr (1, q)))], [.inl ((u : Int), (u : Int))], List.set (α := XC) w 15 (.inr (0, zarr it)), 0, 0)
          refine yreach.at (S' := (58, [(3, .inl ((u : Int), (u : Int))), (2, .inl (((i : Nat) : Int), ((i : Nat) : Int))), (0, .inr (.inr (1, 14))), (1, .inr (.inr (1, q)))], [], List.set (α := XC) w 15 (.inr (0, zarr it)), 0, 0)) (q := _) rfl rfl ?_
          refine yreach.at (S' := (59, [(3, .inl ((u : Int), (u : Int))), (2, .inl (((i : Nat) : Int), ((i : Nat) : Int))), (0, .inr (.inr (1, 14))), (1, .inr (.inr (1, q)))], [.inl ((u : Int), (u : Int))], List.set (α := XC) w 15 (.inr (0, zarr it)), 0, 0)) (q := _) rfl rfl ?_
          refine yreach.at (S' := (61, [(3, .inl ((u : Int), (u : Int))), (2, .inl (((i : Nat) : Int), ((i : Nat) : Int))), (0, .inr (.inr (1, 14))), (1, .inr (.inr (1, q)))], [.inl (-9, -9), .inl ((u : Int), (u : Int))], List.set (α := XC) w 15 (.inr (0, zarr it)), 0, 0)) (q := _) rfl rfl ?_
          refine yreach.at (S' := (66, [(3, .inl ((u : Int), (u : Int))), (2, .inl (((i : Nat) : Int), ((i : Nat) : Int))), (0, .inr (.inr (1, 14))), (1, .inr (.inr (1, q)))], [], List.set (α := XC) w 15 (.inr (0, zarr it)), 0, 0)) (q := _) rfl (sx_icmp (o := true) (zcmp xcne_of (decide_eq_true (by omega)))) ?_
          refine yreach.at (S' := (67, [(3, .inl ((u : Int), (u : Int))), (2, .inl (((i : Nat) : Int), ((i : Nat) : Int))), (0, .inr (.inr (1, 14))), (1, .inr (.inr (1, q)))], [.inr (.inr (1, q))], List.set (α := XC) w 15 (.inr (0, zarr it)), 0, 0)) (q := _) rfl rfl ?_
          refine yreach.at (S' := (68, [(3, .inl ((u : Int), (u : Int))), (2, .inl (((i : Nat) : Int), ((i : Nat) : Int))), (0, .inr (.inr (1, 14))), (1, .inr (.inr (1, q)))], [.inl (((i : Nat) : Int), ((i : Nat) : Int)), .inr (.inr (1, q))], List.set (α := XC) w 15 (.inr (0, zarr it)), 0, 0)) (q := _) rfl rfl ?_
          refine yreach.at (S' := (69, [(3, .inl ((u : Int), (u : Int))), (2, .inl (((i : Nat) : Int), ((i : Nat) : Int))), (0, .inr (.inr (1, 14))), (1, .inr (.inr (1, q)))], [.inl (1, 1), .inl (((i : Nat) : Int), ((i : Nat) : Int)), .inr (.inr (1, q))], List.set (α := XC) w 15 (.inr (0, zarr it)), 0, 0)) (q := _) rfl rfl ?_
          refine yreach.at (S' := (70, [(3, .inl ((u : Int), (u : Int))), (2, .inl (((i : Nat) : Int), ((i : Nat) : Int))), (0, .inr (.inr (1, 14))), (1, .inr (.inr (1, q)))], [.inl (((i + 1 : Nat) : Int), ((i + 1 : Nat) : Int)), .inr (.inr (1, q))], List.set (α := XC) w 15 (.inr (0, zarr it)), 0, 0)) (q := _) rfl (sx_bin rfl (zadd (by omega) (by omega))) ?_
          refine ycall_at (N := xm106) (ro := some (.inl (((i + 1 + d : Nat) : Int), ((i + 1 + d : Nat) : Int)))) (w' := List.set (α := XC) w 15 (.inr (0, zarr it))) (recv := false) (i := .invokestatic 28) (a := 106) (na := 2) (z := 0) rfl (fun _ => rfl) rfl md ⟨Nat.le_of_ble_eq_true rfl, Nat.le_of_ble_eq_true rfl, Nat.le_of_ble_eq_true rfl, Nat.le_of_ble_eq_true rfl, Nat.le_of_ble_eq_true rfl, Nat.le_of_ble_eq_true rfl, rfl⟩ ?_
          show yreach (ySt sc xm104) (yJm l D tA ex sc xm104) (_) (73, [(3, .inl ((u : Int), (u : Int))), (2, .inl (((i : Nat) : Int), ((i : Nat) : Int))), (0, .inr (.inr (1, 14))), (1, .inr (.inr (1, q)))], [.inl (((i + 1 + d : Nat) : Int), ((i + 1 + d : Nat) : Int))], List.set (α := XC) w 15 (.inr (0, zarr it)), 0, 0)
          refine yreach.at (S' := (75, [(4, .inl (((i + 1 + d : Nat) : Int), ((i + 1 + d : Nat) : Int))), (3, .inl ((u : Int), (u : Int))), (2, .inl (((i : Nat) : Int), ((i : Nat) : Int))), (0, .inr (.inr (1, 14))), (1, .inr (.inr (1, q)))], [], List.set (α := XC) w 15 (.inr (0, zarr it)), 0, 0)) (q := _) rfl rfl ?_
          refine yreach.at (S' := (77, [(4, .inl (((i + 1 + d : Nat) : Int), ((i + 1 + d : Nat) : Int))), (3, .inl ((u : Int), (u : Int))), (2, .inl (((i : Nat) : Int), ((i : Nat) : Int))), (0, .inr (.inr (1, 14))), (1, .inr (.inr (1, q)))], [.inl (((i + 1 + d : Nat) : Int), ((i + 1 + d : Nat) : Int))], List.set (α := XC) w 15 (.inr (0, zarr it)), 0, 0)) (q := _) rfl rfl ?_
          refine yreach.at (S' := (78, [(4, .inl (((i + 1 + d : Nat) : Int), ((i + 1 + d : Nat) : Int))), (3, .inl ((u : Int), (u : Int))), (2, .inl (((i : Nat) : Int), ((i : Nat) : Int))), (0, .inr (.inr (1, 14))), (1, .inr (.inr (1, q)))], [.inl (((i : Nat) : Int), ((i : Nat) : Int)), .inl (((i + 1 + d : Nat) : Int), ((i + 1 + d : Nat) : Int))], List.set (α := XC) w 15 (.inr (0, zarr it)), 0, 0)) (q := _) rfl rfl ?_
          refine yreach.at (S' := (79, [(4, .inl (((i + 1 + d : Nat) : Int), ((i + 1 + d : Nat) : Int))), (3, .inl ((u : Int), (u : Int))), (2, .inl (((i : Nat) : Int), ((i : Nat) : Int))), (0, .inr (.inr (1, 14))), (1, .inr (.inr (1, q)))], [.inl (1, 1), .inl (((i : Nat) : Int), ((i : Nat) : Int)), .inl (((i + 1 + d : Nat) : Int), ((i + 1 + d : Nat) : Int))], List.set (α := XC) w 15 (.inr (0, zarr it)), 0, 0)) (q := _) rfl rfl ?_
          refine yreach.at (S' := (80, [(4, .inl (((i + 1 + d : Nat) : Int), ((i + 1 + d : Nat) : Int))), (3, .inl ((u : Int), (u : Int))), (2, .inl (((i : Nat) : Int), ((i : Nat) : Int))), (0, .inr (.inr (1, 14))), (1, .inr (.inr (1, q)))], [.inl (((i + 1 : Nat) : Int), ((i + 1 : Nat) : Int)), .inl (((i + 1 + d : Nat) : Int), ((i + 1 + d : Nat) : Int))], List.set (α := XC) w 15 (.inr (0, zarr it)), 0, 0)) (q := _) rfl (sx_bin rfl (zadd (by omega) (by omega))) ?_
          refine yreach.at (S' := (86, [(4, .inl (((i + 1 + d : Nat) : Int), ((i + 1 + d : Nat) : Int))), (3, .inl ((u : Int), (u : Int))), (2, .inl (((i : Nat) : Int), ((i : Nat) : Int))), (0, .inr (.inr (1, 14))), (1, .inr (.inr (1, q)))], [], List.set (α := XC) w 15 (.inr (0, zarr it)), 0, 0)) (q := _) rfl (sx_icmp (o := true) (zcmp xcne_of (decide_eq_true (by omega)))) ?_
          refine yreach.at (S' := (87, [(4, .inl (((i + 1 + d : Nat) : Int), ((i + 1 + d : Nat) : Int))), (3, .inl ((u : Int), (u : Int))), (2, .inl (((i : Nat) : Int), ((i : Nat) : Int))), (0, .inr (.inr (1, 14))), (1, .inr (.inr (1, q)))], [.inr (.inr (1, q))], List.set (α := XC) w 15 (.inr (0, zarr it)), 0, 0)) (q := _) rfl rfl ?_
          refine yreach.at (S' := (88, [(4, .inl (((i + 1 + d : Nat) : Int), ((i + 1 + d : Nat) : Int))), (3, .inl ((u : Int), (u : Int))), (2, .inl (((i : Nat) : Int), ((i : Nat) : Int))), (0, .inr (.inr (1, 14))), (1, .inr (.inr (1, q)))], [.inl (((i : Nat) : Int), ((i : Nat) : Int)), .inr (.inr (1, q))], List.set (α := XC) w 15 (.inr (0, zarr it)), 0, 0)) (q := _) rfl rfl ?_
          refine yreach.at (S' := (89, [(4, .inl (((i + 1 + d : Nat) : Int), ((i + 1 + d : Nat) : Int))), (3, .inl ((u : Int), (u : Int))), (2, .inl (((i : Nat) : Int), ((i : Nat) : Int))), (0, .inr (.inr (1, 14))), (1, .inr (.inr (1, q)))], [.inl (1, 1), .inl (((i : Nat) : Int), ((i : Nat) : Int)), .inr (.inr (1, q))], List.set (α := XC) w 15 (.inr (0, zarr it)), 0, 0)) (q := _) rfl rfl ?_
          refine yreach.at (S' := (90, [(4, .inl (((i + 1 + d : Nat) : Int), ((i + 1 + d : Nat) : Int))), (3, .inl ((u : Int), (u : Int))), (2, .inl (((i : Nat) : Int), ((i : Nat) : Int))), (0, .inr (.inr (1, 14))), (1, .inr (.inr (1, q)))], [.inl (((i + 1 : Nat) : Int), ((i + 1 : Nat) : Int)), .inr (.inr (1, q))], List.set (α := XC) w 15 (.inr (0, zarr it)), 0, 0)) (q := _) rfl (sx_bin rfl (zadd (by omega) (by omega))) ?_
          refine yreach.at (S' := (92, [(4, .inl (((i + 1 + d : Nat) : Int), ((i + 1 + d : Nat) : Int))), (3, .inl ((u : Int), (u : Int))), (2, .inl (((i : Nat) : Int), ((i : Nat) : Int))), (0, .inr (.inr (1, 14))), (1, .inr (.inr (1, q)))], [.inl (((i + 1 + d : Nat) : Int), ((i + 1 + d : Nat) : Int)), .inl (((i + 1 : Nat) : Int), ((i + 1 : Nat) : Int)), .inr (.inr (1, q))], List.set (α := XC) w 15 (.inr (0, zarr it)), 0, 0)) (q := _) rfl rfl ?_
          refine ycall_at (N := xm107) (ro := some (.inl (n, n))) (w' := List.set (α := XC) w 15 (.inr (0, zarr it))) (recv := false) (i := .invokestatic 32) (a := 107) (na := 3) (z := 0) rfl (fun _ => rfl) rfl mn ⟨Nat.le_of_ble_eq_true rfl, Nat.le_of_ble_eq_true rfl, Nat.le_of_ble_eq_true rfl, Nat.le_of_ble_eq_true rfl, Nat.le_of_ble_eq_true rfl, Nat.le_of_ble_eq_true rfl, rfl⟩ ?_
          show yreach (ySt sc xm104) (yJm l D tA ex sc xm104) (_) (95, [(4, .inl (((i + 1 + d : Nat) : Int), ((i + 1 + d : Nat) : Int))), (3, .inl ((u : Int), (u : Int))), (2, .inl (((i : Nat) : Int), ((i : Nat) : Int))), (0, .inr (.inr (1, 14))), (1, .inr (.inr (1, q)))], [.inl (n, n)], List.set (α := XC) w 15 (.inr (0, zarr it)), 0, 0)
          refine yreach.at (S' := (97, [(5, .inl (n, n)), (4, .inl (((i + 1 + d : Nat) : Int), ((i + 1 + d : Nat) : Int))), (3, .inl ((u : Int), (u : Int))), (2, .inl (((i : Nat) : Int), ((i : Nat) : Int))), (0, .inr (.inr (1, 14))), (1, .inr (.inr (1, q)))], [], List.set (α := XC) w 15 (.inr (0, zarr it)), 0, 0)) (q := _) rfl rfl ?_
          refine yreach.at (S' := (99, [(5, .inl (n, n)), (4, .inl (((i + 1 + d : Nat) : Int), ((i + 1 + d : Nat) : Int))), (3, .inl ((u : Int), (u : Int))), (2, .inl (((i : Nat) : Int), ((i : Nat) : Int))), (0, .inr (.inr (1, 14))), (1, .inr (.inr (1, q)))], [.inl (n, n)], List.set (α := XC) w 15 (.inr (0, zarr it)), 0, 0)) (q := _) rfl rfl ?_
          refine yreach.at (S' := (102, [(5, .inl (n, n)), (4, .inl (((i + 1 + d : Nat) : Int), ((i + 1 + d : Nat) : Int))), (3, .inl ((u : Int), (u : Int))), (2, .inl (((i : Nat) : Int), ((i : Nat) : Int))), (0, .inr (.inr (1, 14))), (1, .inr (.inr (1, q)))], [], List.set (α := XC) w 15 (.inr (0, zarr it)), 0, 0)) (q := _) rfl (sx_if (o := false) (zcmp xcne_of (decide_eq_false (by omega)))) ?_
          refine yreach.at (S' := (103, [(5, .inl (n, n)), (4, .inl (((i + 1 + d : Nat) : Int), ((i + 1 + d : Nat) : Int))), (3, .inl ((u : Int), (u : Int))), (2, .inl (((i : Nat) : Int), ((i : Nat) : Int))), (0, .inr (.inr (1, 14))), (1, .inr (.inr (1, q)))], [.inl ((u : Int), (u : Int))], List.set (α := XC) w 15 (.inr (0, zarr it)), 0, 0)) (q := _) rfl rfl ?_
          refine yreach.at (S' := (104, [(5, .inl (n, n)), (4, .inl (((i + 1 + d : Nat) : Int), ((i + 1 + d : Nat) : Int))), (3, .inl ((u : Int), (u : Int))), (2, .inl (((i : Nat) : Int), ((i : Nat) : Int))), (0, .inr (.inr (1, 14))), (1, .inr (.inr (1, q)))], [.inl (2, 2), .inl ((u : Int), (u : Int))], List.set (α := XC) w 15 (.inr (0, zarr it)), 0, 0)) (q := _) rfl rfl ?_
          refine yreach.at (S' := (107, [(5, .inl (n, n)), (4, .inl (((i + 1 + d : Nat) : Int), ((i + 1 + d : Nat) : Int))), (3, .inl ((u : Int), (u : Int))), (2, .inl (((i : Nat) : Int), ((i : Nat) : Int))), (0, .inr (.inr (1, 14))), (1, .inr (.inr (1, q)))], [], List.set (α := XC) w 15 (.inr (0, zarr it)), 0, 0)) (q := _) rfl (sx_icmp (o := false) (zcmp xceq_of (decide_eq_false (by omega)))) ?_
          refine yreach.at (S' := (108, [(5, .inl (n, n)), (4, .inl (((i + 1 + d : Nat) : Int), ((i + 1 + d : Nat) : Int))), (3, .inl ((u : Int), (u : Int))), (2, .inl (((i : Nat) : Int), ((i : Nat) : Int))), (0, .inr (.inr (1, 14))), (1, .inr (.inr (1, q)))], [.inl ((u : Int), (u : Int))], List.set (α := XC) w 15 (.inr (0, zarr it)), 0, 0)) (q := _) rfl rfl ?_
          refine yreach.at (S' := (109, [(5, .inl (n, n)), (4, .inl (((i + 1 + d : Nat) : Int), ((i + 1 + d : Nat) : Int))), (3, .inl ((u : Int), (u : Int))), (2, .inl (((i : Nat) : Int), ((i : Nat) : Int))), (0, .inr (.inr (1, 14))), (1, .inr (.inr (1, q)))], [.inl (3, 3), .inl ((u : Int), (u : Int))], List.set (α := XC) w 15 (.inr (0, zarr it)), 0, 0)) (q := _) rfl rfl ?_
          refine yreach.at (S' := (115, [(5, .inl (n, n)), (4, .inl (((i + 1 + d : Nat) : Int), ((i + 1 + d : Nat) : Int))), (3, .inl ((u : Int), (u : Int))), (2, .inl (((i : Nat) : Int), ((i : Nat) : Int))), (0, .inr (.inr (1, 14))), (1, .inr (.inr (1, q)))], [], List.set (α := XC) w 15 (.inr (0, zarr it)), 0, 0)) (q := _) rfl (sx_icmp (o := true) (zcmp xcne_of (decide_eq_true (by omega)))) ?_
          refine yreach.at (S' := (116, [(5, .inl (n, n)), (4, .inl (((i + 1 + d : Nat) : Int), ((i + 1 + d : Nat) : Int))), (3, .inl ((u : Int), (u : Int))), (2, .inl (((i : Nat) : Int), ((i : Nat) : Int))), (0, .inr (.inr (1, 14))), (1, .inr (.inr (1, q)))], [.inr (.inr (1, 14))], List.set (α := XC) w 15 (.inr (0, zarr it)), 0, 0)) (q := _) rfl rfl ?_
          refine yreach.at (S' := (119, [(5, .inl (n, n)), (4, .inl (((i + 1 + d : Nat) : Int), ((i + 1 + d : Nat) : Int))), (3, .inl ((u : Int), (u : Int))), (2, .inl (((i : Nat) : Int), ((i : Nat) : Int))), (0, .inr (.inr (1, 14))), (1, .inr (.inr (1, q)))], [.inr (.inr (1, 15))], List.set (α := XC) w 15 (.inr (0, zarr it)), 0, 0)) (q := _) rfl (sx_get hwr gr) ?_
          refine yreach.at (S' := (120, [(5, .inl (n, n)), (4, .inl (((i + 1 + d : Nat) : Int), ((i + 1 + d : Nat) : Int))), (3, .inl ((u : Int), (u : Int))), (2, .inl (((i : Nat) : Int), ((i : Nat) : Int))), (0, .inr (.inr (1, 14))), (1, .inr (.inr (1, q)))], [.inl ((u : Int), (u : Int)), .inr (.inr (1, 15))], List.set (α := XC) w 15 (.inr (0, zarr it)), 0, 0)) (q := _) rfl rfl ?_
          refine yreach.at (S' := (122, [(5, .inl (n, n)), (4, .inl (((i + 1 + d : Nat) : Int), ((i + 1 + d : Nat) : Int))), (3, .inl ((u : Int), (u : Int))), (2, .inl (((i : Nat) : Int), ((i : Nat) : Int))), (0, .inr (.inr (1, 14))), (1, .inr (.inr (1, q)))], [.inl (n, n), .inl ((u : Int), (u : Int)), .inr (.inr (1, 15))], List.set (α := XC) w 15 (.inr (0, zarr it)), 0, 0)) (q := _) rfl rfl ?_
          refine yreach.at (S' := (123, [(5, .inl (n, n)), (4, .inl (((i + 1 + d : Nat) : Int), ((i + 1 + d : Nat) : Int))), (3, .inl ((u : Int), (u : Int))), (2, .inl (((i : Nat) : Int), ((i : Nat) : Int))), (0, .inr (.inr (1, 14))), (1, .inr (.inr (1, q)))], [], List.set (α := XC) w 15 (.inr (0, zarr (it.set u n))), 0, 0)) (q := _) rfl (by
            have hw3 := sx_iastS (cf := yno) (MT := xMT) (FT := xFT) (FD := xFD) (TY := xTY) (TC := xTC) (exc := xSTX ++ [sc]) (M := xm104) (pc := 122) (lv := [(5, .inl (n, n)), (4, .inl (((i + 1 + d : Nat) : Int), ((i + 1 + d : Nat) : Int))), (3, .inl ((u : Int), (u : Int))), (2, .inl (((i : Nat) : Int), ((i : Nat) : Int))), (0, .inr (.inr (1, 14))), (1, .inr (.inr (1, q)))]) (st := []) (w := w) (k := 0) (n := 0) (a := 0) (b := 0) (z := 0) (es := zarr it) (x := (n, n)) hn (zwrite (r := u) (v := .inl (n, n)) (by rw [zarr_len, hit.1]; omega))
            rw [zarr_set] at hw3
            exact hw3) ?_
          refine yreach.at (S' := (125, [(5, .inl (n, n)), (4, .inl (((i + 1 + d : Nat) : Int), ((i + 1 + d : Nat) : Int))), (3, .inl ((u : Int), (u : Int))), (2, .inl (((i : Nat) : Int), ((i : Nat) : Int))), (0, .inr (.inr (1, 14))), (1, .inr (.inr (1, q)))], [.inl (((i + 1 + d : Nat) : Int), ((i + 1 + d : Nat) : Int))], List.set (α := XC) w 15 (.inr (0, zarr (it.set u n))), 0, 0)) (q := _) rfl rfl ?_
          refine yreach.at (S' := (126, [(2, .inl (((i + 1 + d : Nat) : Int), ((i + 1 + d : Nat) : Int))), (5, .inl (n, n)), (4, .inl (((i + 1 + d : Nat) : Int), ((i + 1 + d : Nat) : Int))), (3, .inl ((u : Int), (u : Int))), (0, .inr (.inr (1, 14))), (1, .inr (.inr (1, q)))], [], List.set (α := XC) w 15 (.inr (0, zarr (it.set u n))), 0, 0)) (q := _) rfl rfl ?_
          refine yreach.at (S' := (23, [(2, .inl (((i + 1 + d : Nat) : Int), ((i + 1 + d : Nat) : Int))), (5, .inl (n, n)), (4, .inl (((i + 1 + d : Nat) : Int), ((i + 1 + d : Nat) : Int))), (3, .inl ((u : Int), (u : Int))), (0, .inr (.inr (1, 14))), (1, .inr (.inr (1, q)))], [], List.set (α := XC) w 15 (.inr (0, zarr (it.set u n))), 0, 0)) (q := _) rfl rfl ?_
          refine yreach.sub (lv' := [(2, .inl (((i + 1 + d : Nat) : Int), ((i + 1 + d : Nat) : Int))), (0, .inr (.inr (1, 14))), (1, .inr (.inr (1, q)))]) (by simp) ?_
          exact fin
        · refine yreach.at (S' := (24, [(2, .inl (((i : Nat) : Int), ((i : Nat) : Int))), (0, .inr (.inr (1, 14))), (1, .inr (.inr (1, q)))], [.inl (((i : Nat) : Int), ((i : Nat) : Int))], List.set (α := XC) w 15 (.inr (0, zarr it)), 0, 0)) (q := _) rfl rfl ?_
          refine yreach.at (S' := (25, [(2, .inl (((i : Nat) : Int), ((i : Nat) : Int))), (0, .inr (.inr (1, 14))), (1, .inr (.inr (1, q)))], [.inr (.inr (1, q)), .inl (((i : Nat) : Int), ((i : Nat) : Int))], List.set (α := XC) w 15 (.inr (0, zarr it)), 0, 0)) (q := _) rfl rfl ?_
          refine yreach.at (S' := (28, [(2, .inl (((i : Nat) : Int), ((i : Nat) : Int))), (0, .inr (.inr (1, 14))), (1, .inr (.inr (1, q)))], [.inl ((L.length : Int), (L.length : Int)), .inl (((i : Nat) : Int), ((i : Nat) : Int))], List.set (α := XC) w 15 (.inr (0, zarr it)), 0, 0)) (q := _) rfl (sx_get hwq rfl) ?_
          refine yreach.at (S' := (31, [(2, .inl (((i : Nat) : Int), ((i : Nat) : Int))), (0, .inr (.inr (1, 14))), (1, .inr (.inr (1, q)))], [], List.set (α := XC) w 15 (.inr (0, zarr it)), 0, 0)) (q := _) rfl (sx_icmp (o := false) (zcmp xge_of (decide_eq_false (by omega)))) ?_
          refine yreach.at (S' := (32, [(2, .inl (((i : Nat) : Int), ((i : Nat) : Int))), (0, .inr (.inr (1, 14))), (1, .inr (.inr (1, q)))], [.inr (.inr (1, q))], List.set (α := XC) w 15 (.inr (0, zarr it)), 0, 0)) (q := _) rfl rfl ?_
          refine yreach.at (S' := (35, [(2, .inl (((i : Nat) : Int), ((i : Nat) : Int))), (0, .inr (.inr (1, 14))), (1, .inr (.inr (1, q)))], [.inr (.inr (1, p))], List.set (α := XC) w 15 (.inr (0, zarr it)), 0, 0)) (q := _) rfl (sx_get hwq rfl) ?_
          refine yreach.at (S' := (36, [(2, .inl (((i : Nat) : Int), ((i : Nat) : Int))), (0, .inr (.inr (1, 14))), (1, .inr (.inr (1, q)))], [.inl (((i : Nat) : Int), ((i : Nat) : Int)), .inr (.inr (1, p))], List.set (α := XC) w 15 (.inr (0, zarr it)), 0, 0)) (q := _) rfl rfl ?_
          refine yreach.at (S' := (37, [(2, .inl (((i : Nat) : Int), ((i : Nat) : Int))), (0, .inr (.inr (1, 14))), (1, .inr (.inr (1, q)))], [.inl (v, v)], List.set (α := XC) w 15 (.inr (0, zarr it)), 0, 0)) (q := _) rfl (sx_iald hwp (zread h2)) ?_
          refine yreach.at (S' := (39, [(2, .inl (((i : Nat) : Int), ((i : Nat) : Int))), (0, .inr (.inr (1, 14))), (1, .inr (.inr (1, q)))], [.inl (32, 32), .inl (v, v)], List.set (α := XC) w 15 (.inr (0, zarr it)), 0, 0)) (q := _) rfl rfl ?_
          refine yreach.at (S' := (48, [(2, .inl (((i : Nat) : Int), ((i : Nat) : Int))), (0, .inr (.inr (1, 14))), (1, .inr (.inr (1, q)))], [], List.set (α := XC) w 15 (.inr (0, zarr it)), 0, 0)) (q := _) rfl (sx_icmp (o := true) (zcmp xcne_of (decide_eq_true (by omega)))) ?_
          refine yreach.at (S' := (49, [(2, .inl (((i : Nat) : Int), ((i : Nat) : Int))), (0, .inr (.inr (1, 14))), (1, .inr (.inr (1, q)))], [.inr (.inr (1, q))], List.set (α := XC) w 15 (.inr (0, zarr it)), 0, 0)) (q := _) rfl rfl ?_
          refine yreach.at (S' := (52, [(2, .inl (((i : Nat) : Int), ((i : Nat) : Int))), (0, .inr (.inr (1, 14))), (1, .inr (.inr (1, q)))], [.inr (.inr (1, p))], List.set (α := XC) w 15 (.inr (0, zarr it)), 0, 0)) (q := _) rfl (sx_get hwq rfl) ?_
          refine yreach.at (S' := (53, [(2, .inl (((i : Nat) : Int), ((i : Nat) : Int))), (0, .inr (.inr (1, 14))), (1, .inr (.inr (1, q)))], [.inl (((i : Nat) : Int), ((i : Nat) : Int)), .inr (.inr (1, p))], List.set (α := XC) w 15 (.inr (0, zarr it)), 0, 0)) (q := _) rfl rfl ?_
          refine yreach.at (S' := (54, [(2, .inl (((i : Nat) : Int), ((i : Nat) : Int))), (0, .inr (.inr (1, 14))), (1, .inr (.inr (1, q)))], [.inl (v, v)], List.set (α := XC) w 15 (.inr (0, zarr it)), 0, 0)) (q := _) rfl (sx_iald hwp (zread h2)) ?_
          refine ycall_at (N := xm105) (ro := some (.inl ((u : Int), (u : Int)))) (w' := List.set (α := XC) w 15 (.inr (0, zarr it))) (recv := false) (i := .invokestatic 24) (a := 105) (na := 1) (z := 0) rfl (fun _ => rfl) rfl ml ⟨Nat.le_of_ble_eq_true rfl, Nat.le_of_ble_eq_true rfl, Nat.le_of_ble_eq_true rfl, Nat.le_of_ble_eq_true rfl, Nat.le_of_ble_eq_true rfl, Nat.le_of_ble_eq_true rfl, rfl⟩ ?_
          show yreach (ySt sc xm104) (yJm l D tA ex sc xm104) (_) (57, [(2, .inl (((i : Nat) : Int), ((i : Nat) : Int))), (0, .inr (.inr (1, 14))), (1, .inr (.inr (1, q)))], [.inl ((u : Int), (u : Int))], List.set (α := XC) w 15 (.inr (0, zarr it)), 0, 0)
          refine yreach.at (S' := (58, [(3, .inl ((u : Int), (u : Int))), (2, .inl (((i : Nat) : Int), ((i : Nat) : Int))), (0, .inr (.inr (1, 14))), (1, .inr (.inr (1, q)))], [], List.set (α := XC) w 15 (.inr (0, zarr it)), 0, 0)) (q := _) rfl rfl ?_
          refine yreach.at (S' := (59, [(3, .inl ((u : Int), (u : Int))), (2, .inl (((i : Nat) : Int), ((i : Nat) : Int))), (0, .inr (.inr (1, 14))), (1, .inr (.inr (1, q)))], [.inl ((u : Int), (u : Int))], List.set (α := XC) w 15 (.inr (0, zarr it)), 0, 0)) (q := _) rfl rfl ?_
          refine yreach.at (S' := (61, [(3, .inl ((u : Int), (u : Int))), (2, .inl (((i : Nat) : Int), ((i : Nat) : Int))), (0, .inr (.inr (1, 14))), (1, .inr (.inr (1, q)))], [.inl (-9, -9), .inl ((u : Int), (u : Int))], List.set (α := XC) w 15 (.inr (0, zarr it)), 0, 0)) (q := _) rfl rfl ?_
          refine yreach.at (S' := (66, [(3, .inl ((u : Int), (u : Int))), (2, .inl (((i : Nat) : Int), ((i : Nat) : Int))), (0, .inr (.inr (1, 14))), (1, .inr (.inr (1, q)))], [], List.set (α := XC) w 15 (.inr (0, zarr it)), 0, 0)) (q := _) rfl (sx_icmp (o := true) (zcmp xcne_of (decide_eq_true (by omega)))) ?_
          refine yreach.at (S' := (67, [(3, .inl ((u : Int), (u : Int))), (2, .inl (((i : Nat) : Int), ((i : Nat) : Int))), (0, .inr (.inr (1, 14))), (1, .inr (.inr (1, q)))], [.inr (.inr (1, q))], List.set (α := XC) w 15 (.inr (0, zarr it)), 0, 0)) (q := _) rfl rfl ?_
          refine yreach.at (S' := (68, [(3, .inl ((u : Int), (u : Int))), (2, .inl (((i : Nat) : Int), ((i : Nat) : Int))), (0, .inr (.inr (1, 14))), (1, .inr (.inr (1, q)))], [.inl (((i : Nat) : Int), ((i : Nat) : Int)), .inr (.inr (1, q))], List.set (α := XC) w 15 (.inr (0, zarr it)), 0, 0)) (q := _) rfl rfl ?_
          refine yreach.at (S' := (69, [(3, .inl ((u : Int), (u : Int))), (2, .inl (((i : Nat) : Int), ((i : Nat) : Int))), (0, .inr (.inr (1, 14))), (1, .inr (.inr (1, q)))], [.inl (1, 1), .inl (((i : Nat) : Int), ((i : Nat) : Int)), .inr (.inr (1, q))], List.set (α := XC) w 15 (.inr (0, zarr it)), 0, 0)) (q := _) rfl rfl ?_
          refine yreach.at (S' := (70, [(3, .inl ((u : Int), (u : Int))), (2, .inl (((i : Nat) : Int), ((i : Nat) : Int))), (0, .inr (.inr (1, 14))), (1, .inr (.inr (1, q)))], [.inl (((i + 1 : Nat) : Int), ((i + 1 : Nat) : Int)), .inr (.inr (1, q))], List.set (α := XC) w 15 (.inr (0, zarr it)), 0, 0)) (q := _) rfl (sx_bin rfl (zadd (by omega) (by omega))) ?_
          refine ycall_at (N := xm106) (ro := some (.inl (((i + 1 + d : Nat) : Int), ((i + 1 + d : Nat) : Int)))) (w' := List.set (α := XC) w 15 (.inr (0, zarr it))) (recv := false) (i := .invokestatic 28) (a := 106) (na := 2) (z := 0) rfl (fun _ => rfl) rfl md ⟨Nat.le_of_ble_eq_true rfl, Nat.le_of_ble_eq_true rfl, Nat.le_of_ble_eq_true rfl, Nat.le_of_ble_eq_true rfl, Nat.le_of_ble_eq_true rfl, Nat.le_of_ble_eq_true rfl, rfl⟩ ?_
          show yreach (ySt sc xm104) (yJm l D tA ex sc xm104) (_) (73, [(3, .inl ((u : Int), (u : Int))), (2, .inl (((i : Nat) : Int), ((i : Nat) : Int))), (0, .inr (.inr (1, 14))), (1, .inr (.inr (1, q)))], [.inl (((i + 1 + d : Nat) : Int), ((i + 1 + d : Nat) : Int))], List.set (α := XC) w 15 (.inr (0, zarr it)), 0, 0)
          refine yreach.at (S' := (75, [(4, .inl (((i + 1 + d : Nat) : Int), ((i + 1 + d : Nat) : Int))), (3, .inl ((u : Int), (u : Int))), (2, .inl (((i : Nat) : Int), ((i : Nat) : Int))), (0, .inr (.inr (1, 14))), (1, .inr (.inr (1, q)))], [], List.set (α := XC) w 15 (.inr (0, zarr it)), 0, 0)) (q := _) rfl rfl ?_
          refine yreach.at (S' := (77, [(4, .inl (((i + 1 + d : Nat) : Int), ((i + 1 + d : Nat) : Int))), (3, .inl ((u : Int), (u : Int))), (2, .inl (((i : Nat) : Int), ((i : Nat) : Int))), (0, .inr (.inr (1, 14))), (1, .inr (.inr (1, q)))], [.inl (((i + 1 + d : Nat) : Int), ((i + 1 + d : Nat) : Int))], List.set (α := XC) w 15 (.inr (0, zarr it)), 0, 0)) (q := _) rfl rfl ?_
          refine yreach.at (S' := (78, [(4, .inl (((i + 1 + d : Nat) : Int), ((i + 1 + d : Nat) : Int))), (3, .inl ((u : Int), (u : Int))), (2, .inl (((i : Nat) : Int), ((i : Nat) : Int))), (0, .inr (.inr (1, 14))), (1, .inr (.inr (1, q)))], [.inl (((i : Nat) : Int), ((i : Nat) : Int)), .inl (((i + 1 + d : Nat) : Int), ((i + 1 + d : Nat) : Int))], List.set (α := XC) w 15 (.inr (0, zarr it)), 0, 0)) (q := _) rfl rfl ?_
          refine yreach.at (S' := (79, [(4, .inl (((i + 1 + d : Nat) : Int), ((i + 1 + d : Nat) : Int))), (3, .inl ((u : Int), (u : Int))), (2, .inl (((i : Nat) : Int), ((i : Nat) : Int))), (0, .inr (.inr (1, 14))), (1, .inr (.inr (1, q)))], [.inl (1, 1), .inl (((i : Nat) : Int), ((i : Nat) : Int)), .inl (((i + 1 + d : Nat) : Int), ((i + 1 + d : Nat) : Int))], List.set (α := XC) w 15 (.inr (0, zarr it)), 0, 0)) (q := _) rfl rfl ?_
          refine yreach.at (S' := (80, [(4, .inl (((i + 1 + d : Nat) : Int), ((i + 1 + d : Nat) : Int))), (3, .inl ((u : Int), (u : Int))), (2, .inl (((i : Nat) : Int), ((i : Nat) : Int))), (0, .inr (.inr (1, 14))), (1, .inr (.inr (1, q)))], [.inl (((i + 1 : Nat) : Int), ((i + 1 : Nat) : Int)), .inl (((i + 1 + d : Nat) : Int), ((i + 1 + d : Nat) : Int))], List.set (α := XC) w 15 (.inr (0, zarr it)), 0, 0)) (q := _) rfl (sx_bin rfl (zadd (by omega) (by omega))) ?_
          refine yreach.at (S' := (86, [(4, .inl (((i + 1 + d : Nat) : Int), ((i + 1 + d : Nat) : Int))), (3, .inl ((u : Int), (u : Int))), (2, .inl (((i : Nat) : Int), ((i : Nat) : Int))), (0, .inr (.inr (1, 14))), (1, .inr (.inr (1, q)))], [], List.set (α := XC) w 15 (.inr (0, zarr it)), 0, 0)) (q := _) rfl (sx_icmp (o := true) (zcmp xcne_of (decide_eq_true (by omega)))) ?_
          refine yreach.at (S' := (87, [(4, .inl (((i + 1 + d : Nat) : Int), ((i + 1 + d : Nat) : Int))), (3, .inl ((u : Int), (u : Int))), (2, .inl (((i : Nat) : Int), ((i : Nat) : Int))), (0, .inr (.inr (1, 14))), (1, .inr (.inr (1, q)))], [.inr (.inr (1, q))], List.set (α := XC) w 15 (.inr (0, zarr it)), 0, 0)) (q := _) rfl rfl ?_
          refine yreach.at (S' := (88, [(4, .inl (((i + 1 + d : Nat) : Int), ((i + 1 + d : Nat) : Int))), (3, .inl ((u : Int), (u : Int))), (2, .inl (((i : Nat) : Int), ((i : Nat) : Int))), (0, .inr (.inr (1, 14))), (1, .inr (.inr (1, q)))], [.inl (((i : Nat) : Int), ((i : Nat) : Int)), .inr (.inr (1, q))], List.set (α := XC) w 15 (.inr (0, zarr it)), 0, 0)) (q := _) rfl rfl ?_
          refine yreach.at (S' := (89, [(4, .inl (((i + 1 + d : Nat) : Int), ((i + 1 + d : Nat) : Int))), (3, .inl ((u : Int), (u : Int))), (2, .inl (((i : Nat) : Int), ((i : Nat) : Int))), (0, .inr (.inr (1, 14))), (1, .inr (.inr (1, q)))], [.inl (1, 1), .inl (((i : Nat) : Int), ((i : Nat) : Int)), .inr (.inr (1, q))], List.set (α := XC) w 15 (.inr (0, zarr it)), 0, 0)) (q := _) rfl rfl ?_
          refine yreach.at (S' := (90, [(4, .inl (((i + 1 + d : Nat) : Int), ((i + 1 + d : Nat) : Int))), (3, .inl ((u : Int), (u : Int))), (2, .inl (((i : Nat) : Int), ((i : Nat) : Int))), (0, .inr (.inr (1, 14))), (1, .inr (.inr (1, q)))], [.inl (((i + 1 : Nat) : Int), ((i + 1 : Nat) : Int)), .inr (.inr (1, q))], List.set (α := XC) w 15 (.inr (0, zarr it)), 0, 0)) (q := _) rfl (sx_bin rfl (zadd (by omega) (by omega))) ?_
          refine yreach.at (S' := (92, [(4, .inl (((i + 1 + d : Nat) : Int), ((i + 1 + d : Nat) : Int))), (3, .inl ((u : Int), (u : Int))), (2, .inl (((i : Nat) : Int), ((i : Nat) : Int))), (0, .inr (.inr (1, 14))), (1, .inr (.inr (1, q)))], [.inl (((i + 1 + d : Nat) : Int), ((i + 1 + d : Nat) : Int)), .inl (((i + 1 : Nat) : Int), ((i + 1 : Nat) : Int)), .inr (.inr (1, q))], List.set (α := XC) w 15 (.inr (0, zarr it)), 0, 0)) (q := _) rfl rfl ?_
          refine ycall_at (N := xm107) (ro := some (.inl (n, n))) (w' := List.set (α := XC) w 15 (.inr (0, zarr it))) (recv := false) (i := .invokestatic 32) (a := 107) (na := 3) (z := 0) rfl (fun _ => rfl) rfl mn ⟨Nat.le_of_ble_eq_true rfl, Nat.le_of_ble_eq_true rfl, Nat.le_of_ble_eq_true rfl, Nat.le_of_ble_eq_true rfl, Nat.le_of_ble_eq_true rfl, Nat.le_of_ble_eq_true rfl, rfl⟩ ?_
          show yreach (ySt sc xm104) (yJm l D tA ex sc xm104) (_) (95, [(4, .inl (((i + 1 + d : Nat) : Int), ((i + 1 + d : Nat) : Int))), (3, .inl ((u : Int), (u : Int))), (2, .inl (((i : Nat) : Int), ((i : Nat) : Int))), (0, .inr (.inr (1, 14))), (1, .inr (.inr (1, q)))], [.inl (n, n)], List.set (α := XC) w 15 (.inr (0, zarr it)), 0, 0)
          refine yreach.at (S' := (97, [(5, .inl (n, n)), (4, .inl (((i + 1 + d : Nat) : Int), ((i + 1 + d : Nat) : Int))), (3, .inl ((u : Int), (u : Int))), (2, .inl (((i : Nat) : Int), ((i : Nat) : Int))), (0, .inr (.inr (1, 14))), (1, .inr (.inr (1, q)))], [], List.set (α := XC) w 15 (.inr (0, zarr it)), 0, 0)) (q := _) rfl rfl ?_
          refine yreach.at (S' := (99, [(5, .inl (n, n)), (4, .inl (((i + 1 + d : Nat) : Int), ((i + 1 + d : Nat) : Int))), (3, .inl ((u : Int), (u : Int))), (2, .inl (((i : Nat) : Int), ((i : Nat) : Int))), (0, .inr (.inr (1, 14))), (1, .inr (.inr (1, q)))], [.inl (n, n)], List.set (α := XC) w 15 (.inr (0, zarr it)), 0, 0)) (q := _) rfl rfl ?_
          refine yreach.at (S' := (115, [(5, .inl (n, n)), (4, .inl (((i + 1 + d : Nat) : Int), ((i + 1 + d : Nat) : Int))), (3, .inl ((u : Int), (u : Int))), (2, .inl (((i : Nat) : Int), ((i : Nat) : Int))), (0, .inr (.inr (1, 14))), (1, .inr (.inr (1, q)))], [], List.set (α := XC) w 15 (.inr (0, zarr it)), 0, 0)) (q := _) rfl (sx_if (o := true) (zcmp xcne_of (decide_eq_true (by omega)))) ?_
          refine yreach.at (S' := (116, [(5, .inl (n, n)), (4, .inl (((i + 1 + d : Nat) : Int), ((i + 1 + d : Nat) : Int))), (3, .inl ((u : Int), (u : Int))), (2, .inl (((i : Nat) : Int), ((i : Nat) : Int))), (0, .inr (.inr (1, 14))), (1, .inr (.inr (1, q)))], [.inr (.inr (1, 14))], List.set (α := XC) w 15 (.inr (0, zarr it)), 0, 0)) (q := _) rfl rfl ?_
          refine yreach.at (S' := (119, [(5, .inl (n, n)), (4, .inl (((i + 1 + d : Nat) : Int), ((i + 1 + d : Nat) : Int))), (3, .inl ((u : Int), (u : Int))), (2, .inl (((i : Nat) : Int), ((i : Nat) : Int))), (0, .inr (.inr (1, 14))), (1, .inr (.inr (1, q)))], [.inr (.inr (1, 15))], List.set (α := XC) w 15 (.inr (0, zarr it)), 0, 0)) (q := _) rfl (sx_get hwr gr) ?_
          refine yreach.at (S' := (120, [(5, .inl (n, n)), (4, .inl (((i + 1 + d : Nat) : Int), ((i + 1 + d : Nat) : Int))), (3, .inl ((u : Int), (u : Int))), (2, .inl (((i : Nat) : Int), ((i : Nat) : Int))), (0, .inr (.inr (1, 14))), (1, .inr (.inr (1, q)))], [.inl ((u : Int), (u : Int)), .inr (.inr (1, 15))], List.set (α := XC) w 15 (.inr (0, zarr it)), 0, 0)) (q := _) rfl rfl ?_
          refine yreach.at (S' := (122, [(5, .inl (n, n)), (4, .inl (((i + 1 + d : Nat) : Int), ((i + 1 + d : Nat) : Int))), (3, .inl ((u : Int), (u : Int))), (2, .inl (((i : Nat) : Int), ((i : Nat) : Int))), (0, .inr (.inr (1, 14))), (1, .inr (.inr (1, q)))], [.inl (n, n), .inl ((u : Int), (u : Int)), .inr (.inr (1, 15))], List.set (α := XC) w 15 (.inr (0, zarr it)), 0, 0)) (q := _) rfl rfl ?_
          refine yreach.at (S' := (123, [(5, .inl (n, n)), (4, .inl (((i + 1 + d : Nat) : Int), ((i + 1 + d : Nat) : Int))), (3, .inl ((u : Int), (u : Int))), (2, .inl (((i : Nat) : Int), ((i : Nat) : Int))), (0, .inr (.inr (1, 14))), (1, .inr (.inr (1, q)))], [], List.set (α := XC) w 15 (.inr (0, zarr (it.set u n))), 0, 0)) (q := _) rfl (by
            have hw3 := sx_iastS (cf := yno) (MT := xMT) (FT := xFT) (FD := xFD) (TY := xTY) (TC := xTC) (exc := xSTX ++ [sc]) (M := xm104) (pc := 122) (lv := [(5, .inl (n, n)), (4, .inl (((i + 1 + d : Nat) : Int), ((i + 1 + d : Nat) : Int))), (3, .inl ((u : Int), (u : Int))), (2, .inl (((i : Nat) : Int), ((i : Nat) : Int))), (0, .inr (.inr (1, 14))), (1, .inr (.inr (1, q)))]) (st := []) (w := w) (k := 0) (n := 0) (a := 0) (b := 0) (z := 0) (es := zarr it) (x := (n, n)) hn (zwrite (r := u) (v := .inl (n, n)) (by rw [zarr_len, hit.1]; omega))
            rw [zarr_set] at hw3
            exact hw3) ?_
          refine yreach.at (S' := (125, [(5, .inl (n, n)), (4, .inl (((i + 1 + d : Nat) : Int), ((i + 1 + d : Nat) : Int))), (3, .inl ((u : Int), (u : Int))), (2, .inl (((i : Nat) : Int), ((i : Nat) : Int))), (0, .inr (.inr (1, 14))), (1, .inr (.inr (1, q)))], [.inl (((i + 1 + d : Nat) : Int), ((i + 1 + d : Nat) : Int))], List.set (α := XC) w 15 (.inr (0, zarr (it.set u n))), 0, 0)) (q := _) rfl rfl ?_
          refine yreach.at (S' := (126, [(2, .inl (((i + 1 + d : Nat) : Int), ((i + 1 + d : Nat) : Int))), (5, .inl (n, n)), (4, .inl (((i + 1 + d : Nat) : Int), ((i + 1 + d : Nat) : Int))), (3, .inl ((u : Int), (u : Int))), (0, .inr (.inr (1, 14))), (1, .inr (.inr (1, q)))], [], List.set (α := XC) w 15 (.inr (0, zarr (it.set u n))), 0, 0)) (q := _) rfl rfl ?_
          refine yreach.at (S' := (23, [(2, .inl (((i + 1 + d : Nat) : Int), ((i + 1 + d : Nat) : Int))), (5, .inl (n, n)), (4, .inl (((i + 1 + d : Nat) : Int), ((i + 1 + d : Nat) : Int))), (3, .inl ((u : Int), (u : Int))), (0, .inr (.inr (1, 14))), (1, .inr (.inr (1, q)))], [], List.set (α := XC) w 15 (.inr (0, zarr (it.set u n))), 0, 0)) (q := _) rfl rfl ?_
          refine yreach.sub (lv' := [(2, .inl (((i + 1 + d : Nat) : Int), ((i + 1 + d : Nat) : Int))), (0, .inr (.inr (1, 14))), (1, .inr (.inr (1, q)))]) (by simp) ?_
          exact fin
end YH
