/-! ===== by hand: lay, put, tear, copy of the class ===== -/
/-- n places of one, laid into another -/
def zcp (L M : List Int) (i j n : Nat) : List Int := M.take j ++ ((L.drop i).take n ++ M.drop (j + n))
theorem zcp_lo {α : Type} {L M : List α} {i j n m : Nat} (h : m < j) (hj : j ≤ M.length) : (M.take j ++ ((L.drop i).take n ++ M.drop (j + n)))[m]? = M[m]? := by
  rw [List.getElem?_append_left (by rw [List.length_take]; omega), List.getElem?_take_of_lt h]
theorem zcp_mi {α : Type} {L M : List α} {i j n m : Nat} (h : m < n) (hi : i + n ≤ L.length) (hj : j ≤ M.length) : (M.take j ++ ((L.drop i).take n ++ M.drop (j + n)))[j + m]? = L[i + m]? := by
  have e1 : (M.take j).length = j := by
    rw [List.length_take]
    omega
  have e2 : ((L.drop i).take n).length = n := by
    rw [List.length_take, List.length_drop]
    omega
  rw [List.getElem?_append_right (by omega), e1, List.getElem?_append_left (by omega), show j + m - j = m by omega, List.getElem?_take_of_lt h, List.getElem?_drop]
theorem zcp_hi {α : Type} {L M : List α} {i j n m : Nat} (h : j + n ≤ m) (hi : i + n ≤ L.length) (hj : j + n ≤ M.length) : (M.take j ++ ((L.drop i).take n ++ M.drop (j + n)))[m]? = M[m]? := by
  have e1 : (M.take j).length = j := by
    rw [List.length_take]
    omega
  have e2 : ((L.drop i).take n).length = n := by
    rw [List.length_take, List.length_drop]
    omega
  rw [List.getElem?_append_right (by omega), e1, List.getElem?_append_right (by omega), e2, List.getElem?_drop, show j + n + (m - j - n) = m by omega]
theorem zcp_len {α : Type} {L M : List α} {i j n : Nat} (hi : i + n ≤ L.length) (hj : j + n ≤ M.length) : (M.take j ++ ((L.drop i).take n ++ M.drop (j + n))).length = M.length := by
  rw [List.length_append, List.length_append, List.length_take, List.length_take, List.length_drop, List.length_drop]
  omega
theorem zrep_cpy {L M : List Int} {z1 z2 : Int} {es ed : List XV} {i j n : Nat} (h1 : zrep (some L) z1 es 0) (h2 : zrep (some M) z2 ed 0) (hi : i + n ≤ L.length) (hj : j + n ≤ M.length) (l1 : es.length = 40) (l2 : ed.length = 40) : zrep (some (zcp L M i j n)) z2 (xcpy es ed i j n) 0 := by
  obtain ⟨a1, a2, a3⟩ := h1
  obtain ⟨b1, b2, b3⟩ := h2
  have hl : (zcp L M i j n).length = M.length := zcp_len hi hj
  refine ⟨by rw [hl]; exact b1, by rw [hl]; exact b2, fun m v hm => ?_⟩
  have a3 := fun (k : Nat) (v : Int) (h : L[k]? = some v) => a3 k v h
  rw [Nat.zero_add]
  by_cases c1 : m < j
  · have e : (zcp L M i j n)[m]? = M[m]? := zcp_lo c1 (by omega)
    rw [e] at hm
    have e : (xcpy es ed i j n)[m]? = ed[m]? := zcp_lo c1 (by omega)
    rw [e]
    have := b3 m v hm
    rw [Nat.zero_add] at this
    exact this
  · by_cases c2 : m < j + n
    · obtain ⟨u, rfl⟩ : ∃ u, m = j + u := ⟨m - j, by omega⟩
      have e : (zcp L M i j n)[j + u]? = L[i + u]? := zcp_mi (by omega) hi (by omega)
      rw [e] at hm
      have e : (xcpy es ed i j n)[j + u]? = es[i + u]? := zcp_mi (by omega) (by omega) (by omega)
      rw [e]
      have := a3 (i + u) v hm
      rw [Nat.zero_add] at this
      exact this
    · have e : (zcp L M i j n)[m]? = M[m]? := zcp_hi (by omega) hi hj
      rw [e] at hm
      have e : (xcpy es ed i j n)[m]? = ed[m]? := zcp_hi (by omega) (by omega) (by omega)
      rw [e]
      have := b3 m v hm
      rw [Nat.zero_add] at this
      exact this
/-! the outcome of copy -/
def zCpA (S : ZS) (a i b j n : Int) : Int := if a < 0 ∨ 6 ≤ a ∨ b < 0 ∨ 6 ≤ b then -1 else if n < 0 then -3 else match S (0 + a.toNat) with
  | none => -3
  | some L => match S (0 + b.toNat) with
    | none => -3
    | some M => if 0 ≤ i ∧ 0 ≤ j ∧ i + n ≤ L.length ∧ j + n ≤ M.length then 1 else -3
def zCpS (S : ZS) (a i b j n : Int) : ZS := if a < 0 ∨ 6 ≤ a ∨ b < 0 ∨ 6 ≤ b then S else if n < 0 then S else match S (0 + a.toNat) with
  | none => S
  | some L => match S (0 + b.toNat) with
    | none => S
    | some M => if 0 ≤ i ∧ 0 ≤ j ∧ i + n ≤ L.length ∧ j + n ≤ M.length then zup S (0 + b.toNat) (some (zcp L M i.toNat j.toNat n.toNat)) else S
/-- an array's places are anew -/
theorem zheap_arr {ks : List Nat} {w : XW} (h : yheap yKD ks w) {i k : Nat} (hk : ks[i]? = some k) {n : Nat} {ea : List YE} (hd : yKD k = some (.inr (0, n, ea))) {es es' : List XV} (hw : w[i]? = some (.inr (0, es))) (hl : es'.length = n) (hv : ∀ (j : Nat) (v : XV), es'[j]? = some v → yany ks ea v) (hp : ypa k = true) : yheap yKD ks (w.set i (.inr (0, es'))) := ⟨yheap0_setl h.1 hk hd hw hl hv, ysp_seta h.2 hk hw hp⟩
/-- an int of an array of ints -/
theorem zrng {ks : List Nat} {w : XW} (h : yheap yKD ks w) {i k : Nat} (hk : ks[i]? = some k) {n : Nat} (hd : yKD k = some (.inr (0, n, [(0, -2147483648, 2147483647)]))) {es : List XV} (hw : w[i]? = some (.inr (0, es))) {j : Nat} {v : Int} (hj : es[j]? = some (.inl (v, v))) : yrg v := by
  obtain ⟨es', e1, _, e3⟩ := yheap_a h hk hd
  rw [hw] at e1
  cases e1
  obtain ⟨e, h1, h2⟩ := e3 j _ hj
  rw [List.mem_singleton.mp h1] at h2
  obtain ⟨z, h3, h4, h5, _⟩ := h2
  cases h3
  exact ⟨h4, h5⟩
theorem zb8_rg (v : Int) : yrg (zb8 v) := by
  obtain ⟨z, e, h⟩ := xe1_ex (fun x => x.toInt8.toInt32) v
  unfold zb8
  rw [e]
  exact h
section YH
variable {l : Launch} {D : va_G} {tA : Nat → ClassId} {ex : List Nat} {sc : List XV}
set_option maxHeartbeats 4000000 in
theorem zc_lay {ks : List Nat} {w : XW} {S T : ZS} (hU : zU ks w S T) {a i v : Int} (hi : yrg i) (hv : yrg v) : ∃ w', XMet l D vwCl (tysX tA) tA ex (xSTX ++ [sc]) xSV xNW xNF xTs xm12 [.inr (.inr (1, 0)), .inl (a, a), .inl (i, i), .inl (v, v)] w (some (.inl ((zLyA 6 0 S a i), (zLyA 6 0 S a i)))) w' ∧ zU ks w' (zLyS 6 0 S a i v) T := by
  obtain ⟨fs, hw, g1, g2⟩ := zf0 hU.1 hU.2.1
  by_cases ha : 0 ≤ a ∧ a < 6
  · obtain ⟨r, rfl⟩ : ∃ r : Nat, a = (r : Int) := ⟨a.toNat, by omega⟩
    have hr : r < 6 := by omega
    have hs : 0 + r < 10 := by omega
    obtain ⟨z, es, c1, c2, c3, c4⟩ := hU.2.2.1.2.2 (0 + r) hs
    have n0 : ¬ ((r : Int) < 0 ∨ 6 ≤ (r : Int)) := by omega
    have eA : zLyA 6 0 S (r : Int) i = (match S (0 + r) with
      | none => -3
      | some L => if 0 ≤ i ∧ i < L.length then 1 else -3) := if_neg n0
    have eS : zLyS 6 0 S (r : Int) i v = (match S (0 + r) with
      | none => S
      | some L => if 0 ≤ i ∧ i < L.length then zup S (0 + r) (some (L.set i.toNat v)) else S) := if_neg n0
    rw [eA, eS]
    cases hS : S (0 + r) with
    | none =>
      rw [hS] at c4
      obtain ⟨w2, m2, hU2⟩ := zfound (l := l) (D := D) (tA := tA) (ex := ex) (sc := sc) hU (v := 1) (by decide)
      refine ⟨w2, zex (j := 12) rfl (Nat.le_of_ble_eq_true rfl) ?_, hU2⟩
      refine yreach.at (S' := (1, [(0, .inr (.inr (1, 0))), (1, .inl ((r : Int), (r : Int))), (2, .inl (i, i)), (3, .inl (v, v))], [.inr (.inr (1, 0))], w, 0, 0)) (q := _) rfl rfl ?_
      refine yreach.at (S' := (2, [(0, .inr (.inr (1, 0))), (1, .inl ((r : Int), (r : Int))), (2, .inl (i, i)), (3, .inl (v, v))], [.inl ((r : Int), (r : Int)), .inr (.inr (1, 0))], w, 0, 0)) (q := _) rfl rfl ?_
      refine ycall_at (N := xm9) (ro := some (.inr (.inr (1, 25 + 2 * (0 + r))))) (w' := w) (recv := true) (i := .invokevirtual 78) (a := 9) (na := 2) (z := 0) rfl (fun _ => rfl) rfl (zrow_in hU hr) ⟨Nat.le_of_ble_eq_true rfl, Nat.le_of_ble_eq_true rfl, Nat.le_of_ble_eq_true rfl, Nat.le_of_ble_eq_true rfl, Nat.le_of_ble_eq_true rfl, Nat.le_of_ble_eq_true rfl, (xrecv_at (as := [.inl ((r : Int), (r : Int))]) hw)⟩ ?_
      show yreach (ySt sc xm12) (yJm l D tA ex sc xm12) (_) (5, [(0, .inr (.inr (1, 0))), (1, .inl ((r : Int), (r : Int))), (2, .inl (i, i)), (3, .inl (v, v))], [.inr (.inr (1, 25 + 2 * (0 + r)))], w, 0, 0)
      refine yreach.at (S' := (7, [(4, .inr (.inr (1, 25 + 2 * (0 + r)))), (0, .inr (.inr (1, 0))), (1, .inl ((r : Int), (r : Int))), (2, .inl (i, i)), (3, .inl (v, v))], [], w, 0, 0)) (q := _) rfl rfl ?_
      refine yreach.at (S' := (9, [(4, .inr (.inr (1, 25 + 2 * (0 + r)))), (0, .inr (.inr (1, 0))), (1, .inl ((r : Int), (r : Int))), (2, .inl (i, i)), (3, .inl (v, v))], [.inr (.inr (1, 25 + 2 * (0 + r)))], w, 0, 0)) (q := _) rfl rfl ?_
      refine yreach.at (S' := (14, [(4, .inr (.inr (1, 25 + 2 * (0 + r)))), (0, .inr (.inr (1, 0))), (1, .inl ((r : Int), (r : Int))), (2, .inl (i, i)), (3, .inl (v, v))], [], w, 0, 0)) (q := _) rfl rfl ?_
      refine yreach.at (S' := (16, [(4, .inr (.inr (1, 25 + 2 * (0 + r)))), (0, .inr (.inr (1, 0))), (1, .inl ((r : Int), (r : Int))), (2, .inl (i, i)), (3, .inl (v, v))], [.inr (.inr (1, 25 + 2 * (0 + r)))], w, 0, 0)) (q := _) rfl rfl ?_
      refine ycall_at (N := xm13) (ro := some (.inl (1, 1))) (w' := w) (recv := true) (i := .invokevirtual 90) (a := 13) (na := 1) (z := 0) rfl (fun _ => rfl) rfl (zmis_y c1 c4) ⟨Nat.le_of_ble_eq_true rfl, Nat.le_of_ble_eq_true rfl, Nat.le_of_ble_eq_true rfl, Nat.le_of_ble_eq_true rfl, Nat.le_of_ble_eq_true rfl, Nat.le_of_ble_eq_true rfl, (xrecv_at (as := []) c1)⟩ ?_
      show yreach (ySt sc xm12) (yJm l D tA ex sc xm12) (_) (19, [(4, .inr (.inr (1, 25 + 2 * (0 + r)))), (0, .inr (.inr (1, 0))), (1, .inl ((r : Int), (r : Int))), (2, .inl (i, i)), (3, .inl (v, v))], [.inl (1, 1)], w, 0, 0)
      refine yreach.at (S' := (22, [(4, .inr (.inr (1, 25 + 2 * (0 + r)))), (0, .inr (.inr (1, 0))), (1, .inl ((r : Int), (r : Int))), (2, .inl (i, i)), (3, .inl (v, v))], [], w, 0, 0)) (q := _) rfl (sx_if (o := false) (zcmp xceq_of (decide_eq_false (by omega)))) ?_
      refine yreach.at (S' := (23, [(4, .inr (.inr (1, 25 + 2 * (0 + r)))), (0, .inr (.inr (1, 0))), (1, .inl ((r : Int), (r : Int))), (2, .inl (i, i)), (3, .inl (v, v))], [.inr (.inr (1, 0))], w, 0, 0)) (q := _) rfl rfl ?_
      refine yreach.at (S' := (24, [(4, .inr (.inr (1, 25 + 2 * (0 + r)))), (0, .inr (.inr (1, 0))), (1, .inl ((r : Int), (r : Int))), (2, .inl (i, i)), (3, .inl (v, v))], [.inl (1, 1), .inr (.inr (1, 0))], w, 0, 0)) (q := _) rfl rfl ?_
      refine ycall_at (N := xm10) (ro := some (.inl (-3, -3))) (w' := w2) (recv := true) (i := .invokevirtual 82) (a := 10) (na := 2) (z := 0) rfl (fun _ => rfl) rfl m2 ⟨Nat.le_of_ble_eq_true rfl, Nat.le_of_ble_eq_true rfl, Nat.le_of_ble_eq_true rfl, Nat.le_of_ble_eq_true rfl, Nat.le_of_ble_eq_true rfl, Nat.le_of_ble_eq_true rfl, (xrecv_at (as := [.inl (1, 1)]) hw)⟩ ?_
      show yreach (ySt sc xm12) (yJm l D tA ex sc xm12) (_) (27, [(4, .inr (.inr (1, 25 + 2 * (0 + r)))), (0, .inr (.inr (1, 0))), (1, .inl ((r : Int), (r : Int))), (2, .inl (i, i)), (3, .inl (v, v))], [.inl (-3, -3)], w2, 0, 0)
      exact yreach.ret (q := (some (.inl (-3, -3)), w2, 0, 0)) ((xstep_at rfl).trans rfl) rfl
    | some L =>
      rw [hS] at c4
      have hz : 0 ≤ z ∧ z ≤ 40 := by
        have h1 := c4.1
        have h2 := c4.2.1
        omega
      dsimp only
      by_cases hh : 0 ≤ i ∧ i < L.length
      · obtain ⟨i, rfl⟩ : ∃ u : Nat, i = (u : Int) := ⟨i.toNat, by omega⟩
        have hiL : i < L.length := by omega
        have hi40 : i < es.length := by
          have h2 := c4.2.1
          omega
        have hL : L[i]? = some L[i] := List.getElem?_eq_getElem hiL
        have he : es[i]? = some (.inl (L[i], L[i])) := by
          have h3 := c4.2.2 i _ hL
          rw [Nat.zero_add] at h3
          exact h3
        have hvr : yrg L[i] := zrng hU.1 (zks_a hU.2.1 hs) (show yKD 4 = some yK_4 from rfl) c2 he
        rw [if_pos hh, if_pos hh]
        have c2l := (List.getElem?_eq_some_iff.mp c2).1
        have hne : (25 + 2 * (0 + r)) ≠ (26 + 2 * (0 + r)) := by omega
        have hU1 : zU ks (w.set (26 + 2 * (0 + r)) (.inr (0, es.set i (.inl ((v), (v)))))) (zup S (0 + r) (some (L.set i (v)))) T := ⟨yheap_seta hU.1 (zks_a hU.2.1 hs) (show yKD 4 = some yK_4 from rfl) c2 ⟨_, List.mem_cons_self, ytop_in hv⟩ rfl, hU.2.1, zCA_up hU.2.2.1 hs (fun q h1 h2 => by rw [List.getElem?_set_ne (fun e => h2 e.symm)]) ⟨z, _, by rw [List.getElem?_set_ne (fun e => hne e.symm)]; exact c1, List.getElem?_set_self c2l, by rw [List.length_set]; exact c3, by
            have h5 := zrep_set (i := i) (v := v) c4 hiL (by omega)
            rw [Nat.zero_add] at h5
            exact h5⟩, zMA_eq hU.2.2.2 (fun q h => by rw [List.getElem?_set_ne (by omega)])⟩
        obtain ⟨w2, m2, hU2⟩ := ztell (l := l) (D := D) (tA := tA) (ex := ex) (sc := sc) hU1 (v := L[i]) hvr
        have hw1 : (w.set (26 + 2 * (0 + r)) (.inr (0, es.set i (.inl ((v), (v))))))[0]? = some (.inl (9, fs)) := by
          rw [List.getElem?_set_ne (by omega)]
          exact hw
        refine ⟨w2, zex (j := 12) rfl (Nat.le_of_ble_eq_true rfl) ?_, hU2⟩
        refine yreach.at (S' := (1, [(0, .inr (.inr (1, 0))), (1, .inl ((r : Int), (r : Int))), (2, .inl ((i : Int), (i : Int))), (3, .inl (v, v))], [.inr (.inr (1, 0))], w, 0, 0)) (q := _) rfl rfl ?_
        refine yreach.at (S' := (2, [(0, .inr (.inr (1, 0))), (1, .inl ((r : Int), (r : Int))), (2, .inl ((i : Int), (i : Int))), (3, .inl (v, v))], [.inl ((r : Int), (r : Int)), .inr (.inr (1, 0))], w, 0, 0)) (q := _) rfl rfl ?_
        refine ycall_at (N := xm9) (ro := some (.inr (.inr (1, 25 + 2 * (0 + r))))) (w' := w) (recv := true) (i := .invokevirtual 78) (a := 9) (na := 2) (z := 0) rfl (fun _ => rfl) rfl (zrow_in hU hr) ⟨Nat.le_of_ble_eq_true rfl, Nat.le_of_ble_eq_true rfl, Nat.le_of_ble_eq_true rfl, Nat.le_of_ble_eq_true rfl, Nat.le_of_ble_eq_true rfl, Nat.le_of_ble_eq_true rfl, (xrecv_at (as := [.inl ((r : Int), (r : Int))]) hw)⟩ ?_
        show yreach (ySt sc xm12) (yJm l D tA ex sc xm12) (_) (5, [(0, .inr (.inr (1, 0))), (1, .inl ((r : Int), (r : Int))), (2, .inl ((i : Int), (i : Int))), (3, .inl (v, v))], [.inr (.inr (1, 25 + 2 * (0 + r)))], w, 0, 0)
        refine yreach.at (S' := (7, [(4, .inr (.inr (1, 25 + 2 * (0 + r)))), (0, .inr (.inr (1, 0))), (1, .inl ((r : Int), (r : Int))), (2, .inl ((i : Int), (i : Int))), (3, .inl (v, v))], [], w, 0, 0)) (q := _) rfl rfl ?_
        refine yreach.at (S' := (9, [(4, .inr (.inr (1, 25 + 2 * (0 + r)))), (0, .inr (.inr (1, 0))), (1, .inl ((r : Int), (r : Int))), (2, .inl ((i : Int), (i : Int))), (3, .inl (v, v))], [.inr (.inr (1, 25 + 2 * (0 + r)))], w, 0, 0)) (q := _) rfl rfl ?_
        refine yreach.at (S' := (14, [(4, .inr (.inr (1, 25 + 2 * (0 + r)))), (0, .inr (.inr (1, 0))), (1, .inl ((r : Int), (r : Int))), (2, .inl ((i : Int), (i : Int))), (3, .inl (v, v))], [], w, 0, 0)) (q := _) rfl rfl ?_
        refine yreach.at (S' := (16, [(4, .inr (.inr (1, 25 + 2 * (0 + r)))), (0, .inr (.inr (1, 0))), (1, .inl ((r : Int), (r : Int))), (2, .inl ((i : Int), (i : Int))), (3, .inl (v, v))], [.inr (.inr (1, 25 + 2 * (0 + r)))], w, 0, 0)) (q := _) rfl rfl ?_
        refine ycall_at (N := xm13) (ro := some (.inl (0, 0))) (w' := w) (recv := true) (i := .invokevirtual 90) (a := 13) (na := 1) (z := 0) rfl (fun _ => rfl) rfl (zmis_n c1 hz.1) ⟨Nat.le_of_ble_eq_true rfl, Nat.le_of_ble_eq_true rfl, Nat.le_of_ble_eq_true rfl, Nat.le_of_ble_eq_true rfl, Nat.le_of_ble_eq_true rfl, Nat.le_of_ble_eq_true rfl, (xrecv_at (as := []) c1)⟩ ?_
        show yreach (ySt sc xm12) (yJm l D tA ex sc xm12) (_) (19, [(4, .inr (.inr (1, 25 + 2 * (0 + r)))), (0, .inr (.inr (1, 0))), (1, .inl ((r : Int), (r : Int))), (2, .inl ((i : Int), (i : Int))), (3, .inl (v, v))], [.inl (0, 0)], w, 0, 0)
        refine yreach.at (S' := (28, [(4, .inr (.inr (1, 25 + 2 * (0 + r)))), (0, .inr (.inr (1, 0))), (1, .inl ((r : Int), (r : Int))), (2, .inl ((i : Int), (i : Int))), (3, .inl (v, v))], [], w, 0, 0)) (q := _) rfl (sx_if (o := true) (zcmp xceq_of (decide_eq_true (by omega)))) ?_
        refine yreach.at (S' := (30, [(4, .inr (.inr (1, 25 + 2 * (0 + r)))), (0, .inr (.inr (1, 0))), (1, .inl ((r : Int), (r : Int))), (2, .inl ((i : Int), (i : Int))), (3, .inl (v, v))], [.inr (.inr (1, 25 + 2 * (0 + r)))], w, 0, 0)) (q := _) rfl rfl ?_
        refine yreach.at (S' := (31, [(4, .inr (.inr (1, 25 + 2 * (0 + r)))), (0, .inr (.inr (1, 0))), (1, .inl ((r : Int), (r : Int))), (2, .inl ((i : Int), (i : Int))), (3, .inl (v, v))], [.inl ((i : Int), (i : Int)), .inr (.inr (1, 25 + 2 * (0 + r)))], w, 0, 0)) (q := _) rfl rfl ?_
        refine yreach.at (S' := (32, [(4, .inr (.inr (1, 25 + 2 * (0 + r)))), (0, .inr (.inr (1, 0))), (1, .inl ((r : Int), (r : Int))), (2, .inl ((i : Int), (i : Int))), (3, .inl (v, v))], [.inl (1, 1), .inl ((i : Int), (i : Int)), .inr (.inr (1, 25 + 2 * (0 + r)))], w, 0, 0)) (q := _) rfl rfl ?_
        refine ycall_at (N := xm14) (ro := some (.inl (1, 1))) (w' := w) (recv := true) (i := .invokevirtual 94) (a := 14) (na := 3) (z := 0) rfl (fun _ => rfl) rfl (zhol_y c1 (by have h1 := c4.1; omega) hz.2) ⟨Nat.le_of_ble_eq_true rfl, Nat.le_of_ble_eq_true rfl, Nat.le_of_ble_eq_true rfl, Nat.le_of_ble_eq_true rfl, Nat.le_of_ble_eq_true rfl, Nat.le_of_ble_eq_true rfl, (xrecv_at (as := [.inl ((i : Int), (i : Int)), .inl (1, 1)]) c1)⟩ ?_
        show yreach (ySt sc xm12) (yJm l D tA ex sc xm12) (_) (35, [(4, .inr (.inr (1, 25 + 2 * (0 + r)))), (0, .inr (.inr (1, 0))), (1, .inl ((r : Int), (r : Int))), (2, .inl ((i : Int), (i : Int))), (3, .inl (v, v))], [.inl (1, 1)], w, 0, 0)
        refine yreach.at (S' := (44, [(4, .inr (.inr (1, 25 + 2 * (0 + r)))), (0, .inr (.inr (1, 0))), (1, .inl ((r : Int), (r : Int))), (2, .inl ((i : Int), (i : Int))), (3, .inl (v, v))], [], w, 0, 0)) (q := _) rfl (sx_if (o := true) (zcmp xcne_of (decide_eq_true (by omega)))) ?_
        refine yreach.at (S' := (46, [(4, .inr (.inr (1, 25 + 2 * (0 + r)))), (0, .inr (.inr (1, 0))), (1, .inl ((r : Int), (r : Int))), (2, .inl ((i : Int), (i : Int))), (3, .inl (v, v))], [.inr (.inr (1, 25 + 2 * (0 + r)))], w, 0, 0)) (q := _) rfl rfl ?_
        refine yreach.at (S' := (49, [(4, .inr (.inr (1, 25 + 2 * (0 + r)))), (0, .inr (.inr (1, 0))), (1, .inl ((r : Int), (r : Int))), (2, .inl ((i : Int), (i : Int))), (3, .inl (v, v))], [.inr (.inr (1, 26 + 2 * (0 + r)))], w, 0, 0)) (q := _) rfl (sx_get c1 rfl) ?_
        refine yreach.at (S' := (50, [(4, .inr (.inr (1, 25 + 2 * (0 + r)))), (0, .inr (.inr (1, 0))), (1, .inl ((r : Int), (r : Int))), (2, .inl ((i : Int), (i : Int))), (3, .inl (v, v))], [.inl ((i : Int), (i : Int)), .inr (.inr (1, 26 + 2 * (0 + r)))], w, 0, 0)) (q := _) rfl rfl ?_
        refine yreach.at (S' := (51, [(4, .inr (.inr (1, 25 + 2 * (0 + r)))), (0, .inr (.inr (1, 0))), (1, .inl ((r : Int), (r : Int))), (2, .inl ((i : Int), (i : Int))), (3, .inl (v, v))], [.inl (L[i], L[i])], w, 0, 0)) (q := _) rfl (sx_iald c2 (zread he)) ?_
        refine yreach.at (S' := (53, [(5, .inl (L[i], L[i])), (4, .inr (.inr (1, 25 + 2 * (0 + r)))), (0, .inr (.inr (1, 0))), (1, .inl ((r : Int), (r : Int))), (2, .inl ((i : Int), (i : Int))), (3, .inl (v, v))], [], w, 0, 0)) (q := _) rfl rfl ?_
        refine yreach.at (S' := (55, [(5, .inl (L[i], L[i])), (4, .inr (.inr (1, 25 + 2 * (0 + r)))), (0, .inr (.inr (1, 0))), (1, .inl ((r : Int), (r : Int))), (2, .inl ((i : Int), (i : Int))), (3, .inl (v, v))], [.inr (.inr (1, 25 + 2 * (0 + r)))], w, 0, 0)) (q := _) rfl rfl ?_
        refine yreach.at (S' := (58, [(5, .inl (L[i], L[i])), (4, .inr (.inr (1, 25 + 2 * (0 + r)))), (0, .inr (.inr (1, 0))), (1, .inl ((r : Int), (r : Int))), (2, .inl ((i : Int), (i : Int))), (3, .inl (v, v))], [.inr (.inr (1, 26 + 2 * (0 + r)))], w, 0, 0)) (q := _) rfl (sx_get c1 rfl) ?_
        refine yreach.at (S' := (59, [(5, .inl (L[i], L[i])), (4, .inr (.inr (1, 25 + 2 * (0 + r)))), (0, .inr (.inr (1, 0))), (1, .inl ((r : Int), (r : Int))), (2, .inl ((i : Int), (i : Int))), (3, .inl (v, v))], [.inl ((i : Int), (i : Int)), .inr (.inr (1, 26 + 2 * (0 + r)))], w, 0, 0)) (q := _) rfl rfl ?_
        refine yreach.at (S' := (60, [(5, .inl (L[i], L[i])), (4, .inr (.inr (1, 25 + 2 * (0 + r)))), (0, .inr (.inr (1, 0))), (1, .inl ((r : Int), (r : Int))), (2, .inl ((i : Int), (i : Int))), (3, .inl (v, v))], [.inl (v, v), .inl ((i : Int), (i : Int)), .inr (.inr (1, 26 + 2 * (0 + r)))], w, 0, 0)) (q := _) rfl rfl ?_
        refine yreach.at (S' := (61, [(5, .inl (L[i], L[i])), (4, .inr (.inr (1, 25 + 2 * (0 + r)))), (0, .inr (.inr (1, 0))), (1, .inl ((r : Int), (r : Int))), (2, .inl ((i : Int), (i : Int))), (3, .inl (v, v))], [], (w.set (26 + 2 * (0 + r)) (.inr (0, es.set i (.inl ((v), (v)))))), 0, 0)) (q := _) rfl (by exact sx_iast c2 (zwrite hi40)) ?_
        refine yreach.at (S' := (62, [(5, .inl (L[i], L[i])), (4, .inr (.inr (1, 25 + 2 * (0 + r)))), (0, .inr (.inr (1, 0))), (1, .inl ((r : Int), (r : Int))), (2, .inl ((i : Int), (i : Int))), (3, .inl (v, v))], [.inr (.inr (1, 0))], (w.set (26 + 2 * (0 + r)) (.inr (0, es.set i (.inl ((v), (v)))))), 0, 0)) (q := _) rfl rfl ?_
        refine yreach.at (S' := (64, [(5, .inl (L[i], L[i])), (4, .inr (.inr (1, 25 + 2 * (0 + r)))), (0, .inr (.inr (1, 0))), (1, .inl ((r : Int), (r : Int))), (2, .inl ((i : Int), (i : Int))), (3, .inl (v, v))], [.inl (L[i], L[i]), .inr (.inr (1, 0))], (w.set (26 + 2 * (0 + r)) (.inr (0, es.set i (.inl ((v), (v)))))), 0, 0)) (q := _) rfl rfl ?_
        refine ycall_at (N := xm15) (ro := some (.inl (1, 1))) (w' := w2) (recv := true) (i := .invokevirtual 101) (a := 15) (na := 2) (z := 0) rfl (fun _ => rfl) rfl m2 ⟨Nat.le_of_ble_eq_true rfl, Nat.le_of_ble_eq_true rfl, Nat.le_of_ble_eq_true rfl, Nat.le_of_ble_eq_true rfl, Nat.le_of_ble_eq_true rfl, Nat.le_of_ble_eq_true rfl, (xrecv_at (as := [.inl (L[i], L[i])]) hw1)⟩ ?_
        show yreach (ySt sc xm12) (yJm l D tA ex sc xm12) (_) (67, [(5, .inl (L[i], L[i])), (4, .inr (.inr (1, 25 + 2 * (0 + r)))), (0, .inr (.inr (1, 0))), (1, .inl ((r : Int), (r : Int))), (2, .inl ((i : Int), (i : Int))), (3, .inl (v, v))], [.inl (1, 1)], w2, 0, 0)
        exact yreach.ret (q := (some (.inl (1, 1)), w2, 0, 0)) ((xstep_at rfl).trans rfl) rfl
      · rw [if_neg hh, if_neg hh]
        obtain ⟨w2, m2, hU2⟩ := zfound (l := l) (D := D) (tA := tA) (ex := ex) (sc := sc) hU (v := 2) (by decide)
        refine ⟨w2, zex (j := 12) rfl (Nat.le_of_ble_eq_true rfl) ?_, hU2⟩
        refine yreach.at (S' := (1, [(0, .inr (.inr (1, 0))), (1, .inl ((r : Int), (r : Int))), (2, .inl (i, i)), (3, .inl (v, v))], [.inr (.inr (1, 0))], w, 0, 0)) (q := _) rfl rfl ?_
        refine yreach.at (S' := (2, [(0, .inr (.inr (1, 0))), (1, .inl ((r : Int), (r : Int))), (2, .inl (i, i)), (3, .inl (v, v))], [.inl ((r : Int), (r : Int)), .inr (.inr (1, 0))], w, 0, 0)) (q := _) rfl rfl ?_
        refine ycall_at (N := xm9) (ro := some (.inr (.inr (1, 25 + 2 * (0 + r))))) (w' := w) (recv := true) (i := .invokevirtual 78) (a := 9) (na := 2) (z := 0) rfl (fun _ => rfl) rfl (zrow_in hU hr) ⟨Nat.le_of_ble_eq_true rfl, Nat.le_of_ble_eq_true rfl, Nat.le_of_ble_eq_true rfl, Nat.le_of_ble_eq_true rfl, Nat.le_of_ble_eq_true rfl, Nat.le_of_ble_eq_true rfl, (xrecv_at (as := [.inl ((r : Int), (r : Int))]) hw)⟩ ?_
        show yreach (ySt sc xm12) (yJm l D tA ex sc xm12) (_) (5, [(0, .inr (.inr (1, 0))), (1, .inl ((r : Int), (r : Int))), (2, .inl (i, i)), (3, .inl (v, v))], [.inr (.inr (1, 25 + 2 * (0 + r)))], w, 0, 0)
        refine yreach.at (S' := (7, [(4, .inr (.inr (1, 25 + 2 * (0 + r)))), (0, .inr (.inr (1, 0))), (1, .inl ((r : Int), (r : Int))), (2, .inl (i, i)), (3, .inl (v, v))], [], w, 0, 0)) (q := _) rfl rfl ?_
        refine yreach.at (S' := (9, [(4, .inr (.inr (1, 25 + 2 * (0 + r)))), (0, .inr (.inr (1, 0))), (1, .inl ((r : Int), (r : Int))), (2, .inl (i, i)), (3, .inl (v, v))], [.inr (.inr (1, 25 + 2 * (0 + r)))], w, 0, 0)) (q := _) rfl rfl ?_
        refine yreach.at (S' := (14, [(4, .inr (.inr (1, 25 + 2 * (0 + r)))), (0, .inr (.inr (1, 0))), (1, .inl ((r : Int), (r : Int))), (2, .inl (i, i)), (3, .inl (v, v))], [], w, 0, 0)) (q := _) rfl rfl ?_
        refine yreach.at (S' := (16, [(4, .inr (.inr (1, 25 + 2 * (0 + r)))), (0, .inr (.inr (1, 0))), (1, .inl ((r : Int), (r : Int))), (2, .inl (i, i)), (3, .inl (v, v))], [.inr (.inr (1, 25 + 2 * (0 + r)))], w, 0, 0)) (q := _) rfl rfl ?_
        refine ycall_at (N := xm13) (ro := some (.inl (0, 0))) (w' := w) (recv := true) (i := .invokevirtual 90) (a := 13) (na := 1) (z := 0) rfl (fun _ => rfl) rfl (zmis_n c1 hz.1) ⟨Nat.le_of_ble_eq_true rfl, Nat.le_of_ble_eq_true rfl, Nat.le_of_ble_eq_true rfl, Nat.le_of_ble_eq_true rfl, Nat.le_of_ble_eq_true rfl, Nat.le_of_ble_eq_true rfl, (xrecv_at (as := []) c1)⟩ ?_
        show yreach (ySt sc xm12) (yJm l D tA ex sc xm12) (_) (19, [(4, .inr (.inr (1, 25 + 2 * (0 + r)))), (0, .inr (.inr (1, 0))), (1, .inl ((r : Int), (r : Int))), (2, .inl (i, i)), (3, .inl (v, v))], [.inl (0, 0)], w, 0, 0)
        refine yreach.at (S' := (28, [(4, .inr (.inr (1, 25 + 2 * (0 + r)))), (0, .inr (.inr (1, 0))), (1, .inl ((r : Int), (r : Int))), (2, .inl (i, i)), (3, .inl (v, v))], [], w, 0, 0)) (q := _) rfl (sx_if (o := true) (zcmp xceq_of (decide_eq_true (by omega)))) ?_
        refine yreach.at (S' := (30, [(4, .inr (.inr (1, 25 + 2 * (0 + r)))), (0, .inr (.inr (1, 0))), (1, .inl ((r : Int), (r : Int))), (2, .inl (i, i)), (3, .inl (v, v))], [.inr (.inr (1, 25 + 2 * (0 + r)))], w, 0, 0)) (q := _) rfl rfl ?_
        refine yreach.at (S' := (31, [(4, .inr (.inr (1, 25 + 2 * (0 + r)))), (0, .inr (.inr (1, 0))), (1, .inl ((r : Int), (r : Int))), (2, .inl (i, i)), (3, .inl (v, v))], [.inl (i, i), .inr (.inr (1, 25 + 2 * (0 + r)))], w, 0, 0)) (q := _) rfl rfl ?_
        refine yreach.at (S' := (32, [(4, .inr (.inr (1, 25 + 2 * (0 + r)))), (0, .inr (.inr (1, 0))), (1, .inl ((r : Int), (r : Int))), (2, .inl (i, i)), (3, .inl (v, v))], [.inl (1, 1), .inl (i, i), .inr (.inr (1, 25 + 2 * (0 + r)))], w, 0, 0)) (q := _) rfl rfl ?_
        refine ycall_at (N := xm14) (ro := some (.inl (0, 0))) (w' := w) (recv := true) (i := .invokevirtual 94) (a := 14) (na := 3) (z := 0) rfl (fun _ => rfl) rfl (zhol_n c1 (by have h1 := c4.1; omega) hz.2) ⟨Nat.le_of_ble_eq_true rfl, Nat.le_of_ble_eq_true rfl, Nat.le_of_ble_eq_true rfl, Nat.le_of_ble_eq_true rfl, Nat.le_of_ble_eq_true rfl, Nat.le_of_ble_eq_true rfl, (xrecv_at (as := [.inl (i, i), .inl (1, 1)]) c1)⟩ ?_
        show yreach (ySt sc xm12) (yJm l D tA ex sc xm12) (_) (35, [(4, .inr (.inr (1, 25 + 2 * (0 + r)))), (0, .inr (.inr (1, 0))), (1, .inl ((r : Int), (r : Int))), (2, .inl (i, i)), (3, .inl (v, v))], [.inl (0, 0)], w, 0, 0)
        refine yreach.at (S' := (38, [(4, .inr (.inr (1, 25 + 2 * (0 + r)))), (0, .inr (.inr (1, 0))), (1, .inl ((r : Int), (r : Int))), (2, .inl (i, i)), (3, .inl (v, v))], [], w, 0, 0)) (q := _) rfl (sx_if (o := false) (zcmp xcne_of (decide_eq_false (by omega)))) ?_
        refine yreach.at (S' := (39, [(4, .inr (.inr (1, 25 + 2 * (0 + r)))), (0, .inr (.inr (1, 0))), (1, .inl ((r : Int), (r : Int))), (2, .inl (i, i)), (3, .inl (v, v))], [.inr (.inr (1, 0))], w, 0, 0)) (q := _) rfl rfl ?_
        refine yreach.at (S' := (40, [(4, .inr (.inr (1, 25 + 2 * (0 + r)))), (0, .inr (.inr (1, 0))), (1, .inl ((r : Int), (r : Int))), (2, .inl (i, i)), (3, .inl (v, v))], [.inl (2, 2), .inr (.inr (1, 0))], w, 0, 0)) (q := _) rfl rfl ?_
        refine ycall_at (N := xm10) (ro := some (.inl (-3, -3))) (w' := w2) (recv := true) (i := .invokevirtual 82) (a := 10) (na := 2) (z := 0) rfl (fun _ => rfl) rfl m2 ⟨Nat.le_of_ble_eq_true rfl, Nat.le_of_ble_eq_true rfl, Nat.le_of_ble_eq_true rfl, Nat.le_of_ble_eq_true rfl, Nat.le_of_ble_eq_true rfl, Nat.le_of_ble_eq_true rfl, (xrecv_at (as := [.inl (2, 2)]) hw)⟩ ?_
        show yreach (ySt sc xm12) (yJm l D tA ex sc xm12) (_) (43, [(4, .inr (.inr (1, 25 + 2 * (0 + r)))), (0, .inr (.inr (1, 0))), (1, .inl ((r : Int), (r : Int))), (2, .inl (i, i)), (3, .inl (v, v))], [.inl (-3, -3)], w2, 0, 0)
        exact yreach.ret (q := (some (.inl (-3, -3)), w2, 0, 0)) ((xstep_at rfl).trans rfl) rfl
  · have n1 : a < 0 ∨ 6 ≤ a := by omega
    rw [show zLyA 6 0 S a i = -1 from if_pos n1, show zLyS 6 0 S a i v = S from if_pos n1]
    refine ⟨w, zex (j := 12) rfl (Nat.le_of_ble_eq_true rfl) ?_, hU⟩
    refine yreach.at (S' := (1, [(0, .inr (.inr (1, 0))), (1, .inl (a, a)), (2, .inl (i, i)), (3, .inl (v, v))], [.inr (.inr (1, 0))], w, 0, 0)) (q := _) rfl rfl ?_
    refine yreach.at (S' := (2, [(0, .inr (.inr (1, 0))), (1, .inl (a, a)), (2, .inl (i, i)), (3, .inl (v, v))], [.inl (a, a), .inr (.inr (1, 0))], w, 0, 0)) (q := _) rfl rfl ?_
    refine ycall_at (N := xm9) (ro := some (.inr (.inr (0, 0)))) (w' := w) (recv := true) (i := .invokevirtual 78) (a := 9) (na := 2) (z := 0) rfl (fun _ => rfl) rfl (zrow_no hU ha) ⟨Nat.le_of_ble_eq_true rfl, Nat.le_of_ble_eq_true rfl, Nat.le_of_ble_eq_true rfl, Nat.le_of_ble_eq_true rfl, Nat.le_of_ble_eq_true rfl, Nat.le_of_ble_eq_true rfl, (xrecv_at (as := [.inl (a, a)]) hw)⟩ ?_
    show yreach (ySt sc xm12) (yJm l D tA ex sc xm12) (_) (5, [(0, .inr (.inr (1, 0))), (1, .inl (a, a)), (2, .inl (i, i)), (3, .inl (v, v))], [.inr (.inr (0, 0))], w, 0, 0)
    refine yreach.at (S' := (7, [(4, .inr (.inr (0, 0))), (0, .inr (.inr (1, 0))), (1, .inl (a, a)), (2, .inl (i, i)), (3, .inl (v, v))], [], w, 0, 0)) (q := _) rfl rfl ?_
    refine yreach.at (S' := (9, [(4, .inr (.inr (0, 0))), (0, .inr (.inr (1, 0))), (1, .inl (a, a)), (2, .inl (i, i)), (3, .inl (v, v))], [.inr (.inr (0, 0))], w, 0, 0)) (q := _) rfl rfl ?_
    refine yreach.at (S' := (12, [(4, .inr (.inr (0, 0))), (0, .inr (.inr (1, 0))), (1, .inl (a, a)), (2, .inl (i, i)), (3, .inl (v, v))], [], w, 0, 0)) (q := _) rfl rfl ?_
    refine yreach.at (S' := (13, [(4, .inr (.inr (0, 0))), (0, .inr (.inr (1, 0))), (1, .inl (a, a)), (2, .inl (i, i)), (3, .inl (v, v))], [.inl (-1, -1)], w, 0, 0)) (q := _) rfl rfl ?_
    exact yreach.ret (q := (some (.inl (-1, -1)), w, 0, 0)) ((xstep_at rfl).trans rfl) rfl
set_option maxHeartbeats 4000000 in
theorem zc_put {ks : List Nat} {w : XW} {S T : ZS} (hU : zU ks w S T) {a i v : Int} (hi : yrg i) (hv : yrg v) : ∃ w', XMet l D vwCl (tysX tA) tA ex (xSTX ++ [sc]) xSV xNW xNF xTs xm21 [.inr (.inr (1, 0)), .inl (a, a), .inl (i, i), .inl (v, v)] w (some (.inl ((zPtA S a i), (zPtA S a i)))) w' ∧ zU ks w' (zLyS 4 6 S a i (zb8 v)) T := by
  obtain ⟨fs, hw, g1, g2⟩ := zf0 hU.1 hU.2.1
  by_cases ha : 0 ≤ a ∧ a < 4
  · obtain ⟨r, rfl⟩ : ∃ r : Nat, a = (r : Int) := ⟨a.toNat, by omega⟩
    have hr : r < 4 := by omega
    have hs : 6 + r < 10 := by omega
    obtain ⟨z, es, c1, c2, c3, c4⟩ := hU.2.2.1.2.2 (6 + r) hs
    have n0 : ¬ ((r : Int) < 0 ∨ 4 ≤ (r : Int)) := by omega
    have eA : zPtA S (r : Int) i = (match S (6 + r) with
      | none => -3
      | some L => if 0 ≤ i ∧ i < L.length then (xadd ((L[i.toNat]?).getD 0, (L[i.toNat]?).getD 0) (1000, 1000)).1 else -3) := if_neg n0
    have eS : zLyS 4 6 S (r : Int) i (zb8 v) = (match S (6 + r) with
      | none => S
      | some L => if 0 ≤ i ∧ i < L.length then zup S (6 + r) (some (L.set i.toNat (zb8 v))) else S) := if_neg n0
    rw [eA, eS]
    cases hS : S (6 + r) with
    | none =>
      rw [hS] at c4
      obtain ⟨w2, m2, hU2⟩ := zfound (l := l) (D := D) (tA := tA) (ex := ex) (sc := sc) hU (v := 1) (by decide)
      refine ⟨w2, zex (j := 21) rfl (Nat.le_of_ble_eq_true rfl) ?_, hU2⟩
      refine yreach.at (S' := (1, [(0, .inr (.inr (1, 0))), (1, .inl ((r : Int), (r : Int))), (2, .inl (i, i)), (3, .inl (v, v))], [.inr (.inr (1, 0))], w, 0, 0)) (q := _) rfl rfl ?_
      refine yreach.at (S' := (2, [(0, .inr (.inr (1, 0))), (1, .inl ((r : Int), (r : Int))), (2, .inl (i, i)), (3, .inl (v, v))], [.inl ((r : Int), (r : Int)), .inr (.inr (1, 0))], w, 0, 0)) (q := _) rfl rfl ?_
      refine ycall_at (N := xm20) (ro := some (.inr (.inr (1, 25 + 2 * (6 + r))))) (w' := w) (recv := true) (i := .invokevirtual 113) (a := 20) (na := 2) (z := 0) rfl (fun _ => rfl) rfl (ztxt_in hU hr) ⟨Nat.le_of_ble_eq_true rfl, Nat.le_of_ble_eq_true rfl, Nat.le_of_ble_eq_true rfl, Nat.le_of_ble_eq_true rfl, Nat.le_of_ble_eq_true rfl, Nat.le_of_ble_eq_true rfl, (xrecv_at (as := [.inl ((r : Int), (r : Int))]) hw)⟩ ?_
      show yreach (ySt sc xm21) (yJm l D tA ex sc xm21) (_) (5, [(0, .inr (.inr (1, 0))), (1, .inl ((r : Int), (r : Int))), (2, .inl (i, i)), (3, .inl (v, v))], [.inr (.inr (1, 25 + 2 * (6 + r)))], w, 0, 0)
      refine yreach.at (S' := (7, [(4, .inr (.inr (1, 25 + 2 * (6 + r)))), (0, .inr (.inr (1, 0))), (1, .inl ((r : Int), (r : Int))), (2, .inl (i, i)), (3, .inl (v, v))], [], w, 0, 0)) (q := _) rfl rfl ?_
      refine yreach.at (S' := (9, [(4, .inr (.inr (1, 25 + 2 * (6 + r)))), (0, .inr (.inr (1, 0))), (1, .inl ((r : Int), (r : Int))), (2, .inl (i, i)), (3, .inl (v, v))], [.inr (.inr (1, 25 + 2 * (6 + r)))], w, 0, 0)) (q := _) rfl rfl ?_
      refine yreach.at (S' := (14, [(4, .inr (.inr (1, 25 + 2 * (6 + r)))), (0, .inr (.inr (1, 0))), (1, .inl ((r : Int), (r : Int))), (2, .inl (i, i)), (3, .inl (v, v))], [], w, 0, 0)) (q := _) rfl rfl ?_
      refine yreach.at (S' := (16, [(4, .inr (.inr (1, 25 + 2 * (6 + r)))), (0, .inr (.inr (1, 0))), (1, .inl ((r : Int), (r : Int))), (2, .inl (i, i)), (3, .inl (v, v))], [.inr (.inr (1, 25 + 2 * (6 + r)))], w, 0, 0)) (q := _) rfl rfl ?_
      refine ycall_at (N := xm13) (ro := some (.inl (1, 1))) (w' := w) (recv := true) (i := .invokevirtual 90) (a := 13) (na := 1) (z := 0) rfl (fun _ => rfl) rfl (zmis_y c1 c4) ⟨Nat.le_of_ble_eq_true rfl, Nat.le_of_ble_eq_true rfl, Nat.le_of_ble_eq_true rfl, Nat.le_of_ble_eq_true rfl, Nat.le_of_ble_eq_true rfl, Nat.le_of_ble_eq_true rfl, (xrecv_at (as := []) c1)⟩ ?_
      show yreach (ySt sc xm21) (yJm l D tA ex sc xm21) (_) (19, [(4, .inr (.inr (1, 25 + 2 * (6 + r)))), (0, .inr (.inr (1, 0))), (1, .inl ((r : Int), (r : Int))), (2, .inl (i, i)), (3, .inl (v, v))], [.inl (1, 1)], w, 0, 0)
      refine yreach.at (S' := (22, [(4, .inr (.inr (1, 25 + 2 * (6 + r)))), (0, .inr (.inr (1, 0))), (1, .inl ((r : Int), (r : Int))), (2, .inl (i, i)), (3, .inl (v, v))], [], w, 0, 0)) (q := _) rfl (sx_if (o := false) (zcmp xceq_of (decide_eq_false (by omega)))) ?_
      refine yreach.at (S' := (23, [(4, .inr (.inr (1, 25 + 2 * (6 + r)))), (0, .inr (.inr (1, 0))), (1, .inl ((r : Int), (r : Int))), (2, .inl (i, i)), (3, .inl (v, v))], [.inr (.inr (1, 0))], w, 0, 0)) (q := _) rfl rfl ?_
      refine yreach.at (S' := (24, [(4, .inr (.inr (1, 25 + 2 * (6 + r)))), (0, .inr (.inr (1, 0))), (1, .inl ((r : Int), (r : Int))), (2, .inl (i, i)), (3, .inl (v, v))], [.inl (1, 1), .inr (.inr (1, 0))], w, 0, 0)) (q := _) rfl rfl ?_
      refine ycall_at (N := xm10) (ro := some (.inl (-3, -3))) (w' := w2) (recv := true) (i := .invokevirtual 82) (a := 10) (na := 2) (z := 0) rfl (fun _ => rfl) rfl m2 ⟨Nat.le_of_ble_eq_true rfl, Nat.le_of_ble_eq_true rfl, Nat.le_of_ble_eq_true rfl, Nat.le_of_ble_eq_true rfl, Nat.le_of_ble_eq_true rfl, Nat.le_of_ble_eq_true rfl, (xrecv_at (as := [.inl (1, 1)]) hw)⟩ ?_
      show yreach (ySt sc xm21) (yJm l D tA ex sc xm21) (_) (27, [(4, .inr (.inr (1, 25 + 2 * (6 + r)))), (0, .inr (.inr (1, 0))), (1, .inl ((r : Int), (r : Int))), (2, .inl (i, i)), (3, .inl (v, v))], [.inl (-3, -3)], w2, 0, 0)
      exact yreach.ret (q := (some (.inl (-3, -3)), w2, 0, 0)) ((xstep_at rfl).trans rfl) rfl
    | some L =>
      rw [hS] at c4
      have hz : 0 ≤ z ∧ z ≤ 40 := by
        have h1 := c4.1
        have h2 := c4.2.1
        omega
      dsimp only
      by_cases hh : 0 ≤ i ∧ i < L.length
      · obtain ⟨i, rfl⟩ : ∃ u : Nat, i = (u : Int) := ⟨i.toNat, by omega⟩
        have hiL : i < L.length := by omega
        have hi40 : i < es.length := by
          have h2 := c4.2.1
          omega
        have hL : L[i]? = some L[i] := List.getElem?_eq_getElem hiL
        have he : es[i]? = some (.inl (L[i], L[i])) := by
          have h3 := c4.2.2 i _ hL
          rw [Nat.zero_add] at h3
          exact h3
        have hvr := zb8_rg v
        rw [if_pos hh, if_pos hh]
        rw [show ((i : Nat) : Int).toNat = i from rfl, hL, Option.getD_some]
        have c2l := (List.getElem?_eq_some_iff.mp c2).1
        have hne : (25 + 2 * (6 + r)) ≠ (26 + 2 * (6 + r)) := by omega
        have hU1 : zU ks (w.set (26 + 2 * (6 + r)) (.inr (0, es.set i (.inl ((zb8 v), (zb8 v)))))) (zup S (6 + r) (some (L.set i (zb8 v)))) T := ⟨yheap_seta hU.1 (zks_a hU.2.1 hs) (show yKD 4 = some yK_4 from rfl) c2 ⟨_, List.mem_cons_self, ytop_in hvr⟩ rfl, hU.2.1, zCA_up hU.2.2.1 hs (fun q h1 h2 => by rw [List.getElem?_set_ne (fun e => h2 e.symm)]) ⟨z, _, by rw [List.getElem?_set_ne (fun e => hne e.symm)]; exact c1, List.getElem?_set_self c2l, by rw [List.length_set]; exact c3, by
            have h5 := zrep_set (i := i) (v := zb8 v) c4 hiL (by omega)
            rw [Nat.zero_add] at h5
            exact h5⟩, zMA_eq hU.2.2.2 (fun q h => by rw [List.getElem?_set_ne (by omega)])⟩
        obtain ⟨y, y1, _⟩ := xadd_ex L[i] 1000
        rw [y1]
        refine ⟨_, zex (j := 21) rfl (Nat.le_of_ble_eq_true rfl) ?_, hU1⟩
        refine yreach.at (S' := (1, [(0, .inr (.inr (1, 0))), (1, .inl ((r : Int), (r : Int))), (2, .inl ((i : Int), (i : Int))), (3, .inl (v, v))], [.inr (.inr (1, 0))], w, 0, 0)) (q := _) rfl rfl ?_
        refine yreach.at (S' := (2, [(0, .inr (.inr (1, 0))), (1, .inl ((r : Int), (r : Int))), (2, .inl ((i : Int), (i : Int))), (3, .inl (v, v))], [.inl ((r : Int), (r : Int)), .inr (.inr (1, 0))], w, 0, 0)) (q := _) rfl rfl ?_
        refine ycall_at (N := xm20) (ro := some (.inr (.inr (1, 25 + 2 * (6 + r))))) (w' := w) (recv := true) (i := .invokevirtual 113) (a := 20) (na := 2) (z := 0) rfl (fun _ => rfl) rfl (ztxt_in hU hr) ⟨Nat.le_of_ble_eq_true rfl, Nat.le_of_ble_eq_true rfl, Nat.le_of_ble_eq_true rfl, Nat.le_of_ble_eq_true rfl, Nat.le_of_ble_eq_true rfl, Nat.le_of_ble_eq_true rfl, (xrecv_at (as := [.inl ((r : Int), (r : Int))]) hw)⟩ ?_
        show yreach (ySt sc xm21) (yJm l D tA ex sc xm21) (_) (5, [(0, .inr (.inr (1, 0))), (1, .inl ((r : Int), (r : Int))), (2, .inl ((i : Int), (i : Int))), (3, .inl (v, v))], [.inr (.inr (1, 25 + 2 * (6 + r)))], w, 0, 0)
        refine yreach.at (S' := (7, [(4, .inr (.inr (1, 25 + 2 * (6 + r)))), (0, .inr (.inr (1, 0))), (1, .inl ((r : Int), (r : Int))), (2, .inl ((i : Int), (i : Int))), (3, .inl (v, v))], [], w, 0, 0)) (q := _) rfl rfl ?_
        refine yreach.at (S' := (9, [(4, .inr (.inr (1, 25 + 2 * (6 + r)))), (0, .inr (.inr (1, 0))), (1, .inl ((r : Int), (r : Int))), (2, .inl ((i : Int), (i : Int))), (3, .inl (v, v))], [.inr (.inr (1, 25 + 2 * (6 + r)))], w, 0, 0)) (q := _) rfl rfl ?_
        refine yreach.at (S' := (14, [(4, .inr (.inr (1, 25 + 2 * (6 + r)))), (0, .inr (.inr (1, 0))), (1, .inl ((r : Int), (r : Int))), (2, .inl ((i : Int), (i : Int))), (3, .inl (v, v))], [], w, 0, 0)) (q := _) rfl rfl ?_
        refine yreach.at (S' := (16, [(4, .inr (.inr (1, 25 + 2 * (6 + r)))), (0, .inr (.inr (1, 0))), (1, .inl ((r : Int), (r : Int))), (2, .inl ((i : Int), (i : Int))), (3, .inl (v, v))], [.inr (.inr (1, 25 + 2 * (6 + r)))], w, 0, 0)) (q := _) rfl rfl ?_
        refine ycall_at (N := xm13) (ro := some (.inl (0, 0))) (w' := w) (recv := true) (i := .invokevirtual 90) (a := 13) (na := 1) (z := 0) rfl (fun _ => rfl) rfl (zmis_n c1 hz.1) ⟨Nat.le_of_ble_eq_true rfl, Nat.le_of_ble_eq_true rfl, Nat.le_of_ble_eq_true rfl, Nat.le_of_ble_eq_true rfl, Nat.le_of_ble_eq_true rfl, Nat.le_of_ble_eq_true rfl, (xrecv_at (as := []) c1)⟩ ?_
        show yreach (ySt sc xm21) (yJm l D tA ex sc xm21) (_) (19, [(4, .inr (.inr (1, 25 + 2 * (6 + r)))), (0, .inr (.inr (1, 0))), (1, .inl ((r : Int), (r : Int))), (2, .inl ((i : Int), (i : Int))), (3, .inl (v, v))], [.inl (0, 0)], w, 0, 0)
        refine yreach.at (S' := (28, [(4, .inr (.inr (1, 25 + 2 * (6 + r)))), (0, .inr (.inr (1, 0))), (1, .inl ((r : Int), (r : Int))), (2, .inl ((i : Int), (i : Int))), (3, .inl (v, v))], [], w, 0, 0)) (q := _) rfl (sx_if (o := true) (zcmp xceq_of (decide_eq_true (by omega)))) ?_
        refine yreach.at (S' := (30, [(4, .inr (.inr (1, 25 + 2 * (6 + r)))), (0, .inr (.inr (1, 0))), (1, .inl ((r : Int), (r : Int))), (2, .inl ((i : Int), (i : Int))), (3, .inl (v, v))], [.inr (.inr (1, 25 + 2 * (6 + r)))], w, 0, 0)) (q := _) rfl rfl ?_
        refine yreach.at (S' := (31, [(4, .inr (.inr (1, 25 + 2 * (6 + r)))), (0, .inr (.inr (1, 0))), (1, .inl ((r : Int), (r : Int))), (2, .inl ((i : Int), (i : Int))), (3, .inl (v, v))], [.inl ((i : Int), (i : Int)), .inr (.inr (1, 25 + 2 * (6 + r)))], w, 0, 0)) (q := _) rfl rfl ?_
        refine yreach.at (S' := (32, [(4, .inr (.inr (1, 25 + 2 * (6 + r)))), (0, .inr (.inr (1, 0))), (1, .inl ((r : Int), (r : Int))), (2, .inl ((i : Int), (i : Int))), (3, .inl (v, v))], [.inl (1, 1), .inl ((i : Int), (i : Int)), .inr (.inr (1, 25 + 2 * (6 + r)))], w, 0, 0)) (q := _) rfl rfl ?_
        refine ycall_at (N := xm14) (ro := some (.inl (1, 1))) (w' := w) (recv := true) (i := .invokevirtual 94) (a := 14) (na := 3) (z := 0) rfl (fun _ => rfl) rfl (zhol_y c1 (by have h1 := c4.1; omega) hz.2) ⟨Nat.le_of_ble_eq_true rfl, Nat.le_of_ble_eq_true rfl, Nat.le_of_ble_eq_true rfl, Nat.le_of_ble_eq_true rfl, Nat.le_of_ble_eq_true rfl, Nat.le_of_ble_eq_true rfl, (xrecv_at (as := [.inl ((i : Int), (i : Int)), .inl (1, 1)]) c1)⟩ ?_
        show yreach (ySt sc xm21) (yJm l D tA ex sc xm21) (_) (35, [(4, .inr (.inr (1, 25 + 2 * (6 + r)))), (0, .inr (.inr (1, 0))), (1, .inl ((r : Int), (r : Int))), (2, .inl ((i : Int), (i : Int))), (3, .inl (v, v))], [.inl (1, 1)], w, 0, 0)
        refine yreach.at (S' := (44, [(4, .inr (.inr (1, 25 + 2 * (6 + r)))), (0, .inr (.inr (1, 0))), (1, .inl ((r : Int), (r : Int))), (2, .inl ((i : Int), (i : Int))), (3, .inl (v, v))], [], w, 0, 0)) (q := _) rfl (sx_if (o := true) (zcmp xcne_of (decide_eq_true (by omega)))) ?_
        refine yreach.at (S' := (46, [(4, .inr (.inr (1, 25 + 2 * (6 + r)))), (0, .inr (.inr (1, 0))), (1, .inl ((r : Int), (r : Int))), (2, .inl ((i : Int), (i : Int))), (3, .inl (v, v))], [.inr (.inr (1, 25 + 2 * (6 + r)))], w, 0, 0)) (q := _) rfl rfl ?_
        refine yreach.at (S' := (49, [(4, .inr (.inr (1, 25 + 2 * (6 + r)))), (0, .inr (.inr (1, 0))), (1, .inl ((r : Int), (r : Int))), (2, .inl ((i : Int), (i : Int))), (3, .inl (v, v))], [.inr (.inr (1, 26 + 2 * (6 + r)))], w, 0, 0)) (q := _) rfl (sx_get c1 rfl) ?_
        refine yreach.at (S' := (50, [(4, .inr (.inr (1, 25 + 2 * (6 + r)))), (0, .inr (.inr (1, 0))), (1, .inl ((r : Int), (r : Int))), (2, .inl ((i : Int), (i : Int))), (3, .inl (v, v))], [.inl ((i : Int), (i : Int)), .inr (.inr (1, 26 + 2 * (6 + r)))], w, 0, 0)) (q := _) rfl rfl ?_
        refine yreach.at (S' := (51, [(4, .inr (.inr (1, 25 + 2 * (6 + r)))), (0, .inr (.inr (1, 0))), (1, .inl ((r : Int), (r : Int))), (2, .inl ((i : Int), (i : Int))), (3, .inl (v, v))], [.inl (L[i], L[i])], w, 0, 0)) (q := _) rfl (sx_iald c2 (zread he)) ?_
        refine yreach.at (S' := (53, [(5, .inl (L[i], L[i])), (4, .inr (.inr (1, 25 + 2 * (6 + r)))), (0, .inr (.inr (1, 0))), (1, .inl ((r : Int), (r : Int))), (2, .inl ((i : Int), (i : Int))), (3, .inl (v, v))], [], w, 0, 0)) (q := _) rfl rfl ?_
        refine yreach.at (S' := (55, [(5, .inl (L[i], L[i])), (4, .inr (.inr (1, 25 + 2 * (6 + r)))), (0, .inr (.inr (1, 0))), (1, .inl ((r : Int), (r : Int))), (2, .inl ((i : Int), (i : Int))), (3, .inl (v, v))], [.inr (.inr (1, 25 + 2 * (6 + r)))], w, 0, 0)) (q := _) rfl rfl ?_
        refine yreach.at (S' := (58, [(5, .inl (L[i], L[i])), (4, .inr (.inr (1, 25 + 2 * (6 + r)))), (0, .inr (.inr (1, 0))), (1, .inl ((r : Int), (r : Int))), (2, .inl ((i : Int), (i : Int))), (3, .inl (v, v))], [.inr (.inr (1, 26 + 2 * (6 + r)))], w, 0, 0)) (q := _) rfl (sx_get c1 rfl) ?_
        refine yreach.at (S' := (59, [(5, .inl (L[i], L[i])), (4, .inr (.inr (1, 25 + 2 * (6 + r)))), (0, .inr (.inr (1, 0))), (1, .inl ((r : Int), (r : Int))), (2, .inl ((i : Int), (i : Int))), (3, .inl (v, v))], [.inl ((i : Int), (i : Int)), .inr (.inr (1, 26 + 2 * (6 + r)))], w, 0, 0)) (q := _) rfl rfl ?_
        refine yreach.at (S' := (60, [(5, .inl (L[i], L[i])), (4, .inr (.inr (1, 25 + 2 * (6 + r)))), (0, .inr (.inr (1, 0))), (1, .inl ((r : Int), (r : Int))), (2, .inl ((i : Int), (i : Int))), (3, .inl (v, v))], [.inl (v, v), .inl ((i : Int), (i : Int)), .inr (.inr (1, 26 + 2 * (6 + r)))], w, 0, 0)) (q := _) rfl rfl ?_
        refine yreach.at (S' := (61, [(5, .inl (L[i], L[i])), (4, .inr (.inr (1, 25 + 2 * (6 + r)))), (0, .inr (.inr (1, 0))), (1, .inl ((r : Int), (r : Int))), (2, .inl ((i : Int), (i : Int))), (3, .inl (v, v))], [.inl ((zb8 v), (zb8 v)), .inl ((i : Int), (i : Int)), .inr (.inr (1, 26 + 2 * (6 + r)))], w, 0, 0)) (q := _) rfl (by
          show (some (.inl (61, _, .inl (xe1 (fun x => x.toInt8.toInt32) (v, v)) :: _, _, 0, 0)) : Option XR) = _
          rw [zb8_e]) ?_
        refine yreach.at (S' := (62, [(5, .inl (L[i], L[i])), (4, .inr (.inr (1, 25 + 2 * (6 + r)))), (0, .inr (.inr (1, 0))), (1, .inl ((r : Int), (r : Int))), (2, .inl ((i : Int), (i : Int))), (3, .inl (v, v))], [], (w.set (26 + 2 * (6 + r)) (.inr (0, es.set i (.inl ((zb8 v), (zb8 v)))))), 0, 0)) (q := _) rfl (by exact sx_iast c2 (zwrite hi40)) ?_
        refine yreach.at (S' := (64, [(5, .inl (L[i], L[i])), (4, .inr (.inr (1, 25 + 2 * (6 + r)))), (0, .inr (.inr (1, 0))), (1, .inl ((r : Int), (r : Int))), (2, .inl ((i : Int), (i : Int))), (3, .inl (v, v))], [.inl (L[i], L[i])], (w.set (26 + 2 * (6 + r)) (.inr (0, es.set i (.inl ((zb8 v), (zb8 v)))))), 0, 0)) (q := _) rfl rfl ?_
        refine yreach.at (S' := (67, [(5, .inl (L[i], L[i])), (4, .inr (.inr (1, 25 + 2 * (6 + r)))), (0, .inr (.inr (1, 0))), (1, .inl ((r : Int), (r : Int))), (2, .inl ((i : Int), (i : Int))), (3, .inl (v, v))], [.inl (1000, 1000), .inl (L[i], L[i])], (w.set (26 + 2 * (6 + r)) (.inr (0, es.set i (.inl ((zb8 v), (zb8 v)))))), 0, 0)) (q := _) rfl rfl ?_
        refine yreach.at (S' := (68, [(5, .inl (L[i], L[i])), (4, .inr (.inr (1, 25 + 2 * (6 + r)))), (0, .inr (.inr (1, 0))), (1, .inl ((r : Int), (r : Int))), (2, .inl ((i : Int), (i : Int))), (3, .inl (v, v))], [.inl (y, y)], (w.set (26 + 2 * (6 + r)) (.inr (0, es.set i (.inl ((zb8 v), (zb8 v)))))), 0, 0)) (q := _) rfl (sx_bin rfl y1) ?_
        exact yreach.ret (q := (some (.inl (y, y)), (w.set (26 + 2 * (6 + r)) (.inr (0, es.set i (.inl ((zb8 v), (zb8 v)))))), 0, 0)) ((xstep_at rfl).trans rfl) rfl
      · rw [if_neg hh, if_neg hh]
        obtain ⟨w2, m2, hU2⟩ := zfound (l := l) (D := D) (tA := tA) (ex := ex) (sc := sc) hU (v := 2) (by decide)
        refine ⟨w2, zex (j := 21) rfl (Nat.le_of_ble_eq_true rfl) ?_, hU2⟩
        refine yreach.at (S' := (1, [(0, .inr (.inr (1, 0))), (1, .inl ((r : Int), (r : Int))), (2, .inl (i, i)), (3, .inl (v, v))], [.inr (.inr (1, 0))], w, 0, 0)) (q := _) rfl rfl ?_
        refine yreach.at (S' := (2, [(0, .inr (.inr (1, 0))), (1, .inl ((r : Int), (r : Int))), (2, .inl (i, i)), (3, .inl (v, v))], [.inl ((r : Int), (r : Int)), .inr (.inr (1, 0))], w, 0, 0)) (q := _) rfl rfl ?_
        refine ycall_at (N := xm20) (ro := some (.inr (.inr (1, 25 + 2 * (6 + r))))) (w' := w) (recv := true) (i := .invokevirtual 113) (a := 20) (na := 2) (z := 0) rfl (fun _ => rfl) rfl (ztxt_in hU hr) ⟨Nat.le_of_ble_eq_true rfl, Nat.le_of_ble_eq_true rfl, Nat.le_of_ble_eq_true rfl, Nat.le_of_ble_eq_true rfl, Nat.le_of_ble_eq_true rfl, Nat.le_of_ble_eq_true rfl, (xrecv_at (as := [.inl ((r : Int), (r : Int))]) hw)⟩ ?_
        show yreach (ySt sc xm21) (yJm l D tA ex sc xm21) (_) (5, [(0, .inr (.inr (1, 0))), (1, .inl ((r : Int), (r : Int))), (2, .inl (i, i)), (3, .inl (v, v))], [.inr (.inr (1, 25 + 2 * (6 + r)))], w, 0, 0)
        refine yreach.at (S' := (7, [(4, .inr (.inr (1, 25 + 2 * (6 + r)))), (0, .inr (.inr (1, 0))), (1, .inl ((r : Int), (r : Int))), (2, .inl (i, i)), (3, .inl (v, v))], [], w, 0, 0)) (q := _) rfl rfl ?_
        refine yreach.at (S' := (9, [(4, .inr (.inr (1, 25 + 2 * (6 + r)))), (0, .inr (.inr (1, 0))), (1, .inl ((r : Int), (r : Int))), (2, .inl (i, i)), (3, .inl (v, v))], [.inr (.inr (1, 25 + 2 * (6 + r)))], w, 0, 0)) (q := _) rfl rfl ?_
        refine yreach.at (S' := (14, [(4, .inr (.inr (1, 25 + 2 * (6 + r)))), (0, .inr (.inr (1, 0))), (1, .inl ((r : Int), (r : Int))), (2, .inl (i, i)), (3, .inl (v, v))], [], w, 0, 0)) (q := _) rfl rfl ?_
        refine yreach.at (S' := (16, [(4, .inr (.inr (1, 25 + 2 * (6 + r)))), (0, .inr (.inr (1, 0))), (1, .inl ((r : Int), (r : Int))), (2, .inl (i, i)), (3, .inl (v, v))], [.inr (.inr (1, 25 + 2 * (6 + r)))], w, 0, 0)) (q := _) rfl rfl ?_
        refine ycall_at (N := xm13) (ro := some (.inl (0, 0))) (w' := w) (recv := true) (i := .invokevirtual 90) (a := 13) (na := 1) (z := 0) rfl (fun _ => rfl) rfl (zmis_n c1 hz.1) ⟨Nat.le_of_ble_eq_true rfl, Nat.le_of_ble_eq_true rfl, Nat.le_of_ble_eq_true rfl, Nat.le_of_ble_eq_true rfl, Nat.le_of_ble_eq_true rfl, Nat.le_of_ble_eq_true rfl, (xrecv_at (as := []) c1)⟩ ?_
        show yreach (ySt sc xm21) (yJm l D tA ex sc xm21) (_) (19, [(4, .inr (.inr (1, 25 + 2 * (6 + r)))), (0, .inr (.inr (1, 0))), (1, .inl ((r : Int), (r : Int))), (2, .inl (i, i)), (3, .inl (v, v))], [.inl (0, 0)], w, 0, 0)
        refine yreach.at (S' := (28, [(4, .inr (.inr (1, 25 + 2 * (6 + r)))), (0, .inr (.inr (1, 0))), (1, .inl ((r : Int), (r : Int))), (2, .inl (i, i)), (3, .inl (v, v))], [], w, 0, 0)) (q := _) rfl (sx_if (o := true) (zcmp xceq_of (decide_eq_true (by omega)))) ?_
        refine yreach.at (S' := (30, [(4, .inr (.inr (1, 25 + 2 * (6 + r)))), (0, .inr (.inr (1, 0))), (1, .inl ((r : Int), (r : Int))), (2, .inl (i, i)), (3, .inl (v, v))], [.inr (.inr (1, 25 + 2 * (6 + r)))], w, 0, 0)) (q := _) rfl rfl ?_
        refine yreach.at (S' := (31, [(4, .inr (.inr (1, 25 + 2 * (6 + r)))), (0, .inr (.inr (1, 0))), (1, .inl ((r : Int), (r : Int))), (2, .inl (i, i)), (3, .inl (v, v))], [.inl (i, i), .inr (.inr (1, 25 + 2 * (6 + r)))], w, 0, 0)) (q := _) rfl rfl ?_
        refine yreach.at (S' := (32, [(4, .inr (.inr (1, 25 + 2 * (6 + r)))), (0, .inr (.inr (1, 0))), (1, .inl ((r : Int), (r : Int))), (2, .inl (i, i)), (3, .inl (v, v))], [.inl (1, 1), .inl (i, i), .inr (.inr (1, 25 + 2 * (6 + r)))], w, 0, 0)) (q := _) rfl rfl ?_
        refine ycall_at (N := xm14) (ro := some (.inl (0, 0))) (w' := w) (recv := true) (i := .invokevirtual 94) (a := 14) (na := 3) (z := 0) rfl (fun _ => rfl) rfl (zhol_n c1 (by have h1 := c4.1; omega) hz.2) ⟨Nat.le_of_ble_eq_true rfl, Nat.le_of_ble_eq_true rfl, Nat.le_of_ble_eq_true rfl, Nat.le_of_ble_eq_true rfl, Nat.le_of_ble_eq_true rfl, Nat.le_of_ble_eq_true rfl, (xrecv_at (as := [.inl (i, i), .inl (1, 1)]) c1)⟩ ?_
        show yreach (ySt sc xm21) (yJm l D tA ex sc xm21) (_) (35, [(4, .inr (.inr (1, 25 + 2 * (6 + r)))), (0, .inr (.inr (1, 0))), (1, .inl ((r : Int), (r : Int))), (2, .inl (i, i)), (3, .inl (v, v))], [.inl (0, 0)], w, 0, 0)
        refine yreach.at (S' := (38, [(4, .inr (.inr (1, 25 + 2 * (6 + r)))), (0, .inr (.inr (1, 0))), (1, .inl ((r : Int), (r : Int))), (2, .inl (i, i)), (3, .inl (v, v))], [], w, 0, 0)) (q := _) rfl (sx_if (o := false) (zcmp xcne_of (decide_eq_false (by omega)))) ?_
        refine yreach.at (S' := (39, [(4, .inr (.inr (1, 25 + 2 * (6 + r)))), (0, .inr (.inr (1, 0))), (1, .inl ((r : Int), (r : Int))), (2, .inl (i, i)), (3, .inl (v, v))], [.inr (.inr (1, 0))], w, 0, 0)) (q := _) rfl rfl ?_
        refine yreach.at (S' := (40, [(4, .inr (.inr (1, 25 + 2 * (6 + r)))), (0, .inr (.inr (1, 0))), (1, .inl ((r : Int), (r : Int))), (2, .inl (i, i)), (3, .inl (v, v))], [.inl (2, 2), .inr (.inr (1, 0))], w, 0, 0)) (q := _) rfl rfl ?_
        refine ycall_at (N := xm10) (ro := some (.inl (-3, -3))) (w' := w2) (recv := true) (i := .invokevirtual 82) (a := 10) (na := 2) (z := 0) rfl (fun _ => rfl) rfl m2 ⟨Nat.le_of_ble_eq_true rfl, Nat.le_of_ble_eq_true rfl, Nat.le_of_ble_eq_true rfl, Nat.le_of_ble_eq_true rfl, Nat.le_of_ble_eq_true rfl, Nat.le_of_ble_eq_true rfl, (xrecv_at (as := [.inl (2, 2)]) hw)⟩ ?_
        show yreach (ySt sc xm21) (yJm l D tA ex sc xm21) (_) (43, [(4, .inr (.inr (1, 25 + 2 * (6 + r)))), (0, .inr (.inr (1, 0))), (1, .inl ((r : Int), (r : Int))), (2, .inl (i, i)), (3, .inl (v, v))], [.inl (-3, -3)], w2, 0, 0)
        exact yreach.ret (q := (some (.inl (-3, -3)), w2, 0, 0)) ((xstep_at rfl).trans rfl) rfl
  · have n1 : a < 0 ∨ 4 ≤ a := by omega
    rw [show zPtA S a i = -1 from if_pos n1, show zLyS 4 6 S a i (zb8 v) = S from if_pos n1]
    refine ⟨w, zex (j := 21) rfl (Nat.le_of_ble_eq_true rfl) ?_, hU⟩
    refine yreach.at (S' := (1, [(0, .inr (.inr (1, 0))), (1, .inl (a, a)), (2, .inl (i, i)), (3, .inl (v, v))], [.inr (.inr (1, 0))], w, 0, 0)) (q := _) rfl rfl ?_
    refine yreach.at (S' := (2, [(0, .inr (.inr (1, 0))), (1, .inl (a, a)), (2, .inl (i, i)), (3, .inl (v, v))], [.inl (a, a), .inr (.inr (1, 0))], w, 0, 0)) (q := _) rfl rfl ?_
    refine ycall_at (N := xm20) (ro := some (.inr (.inr (0, 0)))) (w' := w) (recv := true) (i := .invokevirtual 113) (a := 20) (na := 2) (z := 0) rfl (fun _ => rfl) rfl (ztxt_no hU ha) ⟨Nat.le_of_ble_eq_true rfl, Nat.le_of_ble_eq_true rfl, Nat.le_of_ble_eq_true rfl, Nat.le_of_ble_eq_true rfl, Nat.le_of_ble_eq_true rfl, Nat.le_of_ble_eq_true rfl, (xrecv_at (as := [.inl (a, a)]) hw)⟩ ?_
    show yreach (ySt sc xm21) (yJm l D tA ex sc xm21) (_) (5, [(0, .inr (.inr (1, 0))), (1, .inl (a, a)), (2, .inl (i, i)), (3, .inl (v, v))], [.inr (.inr (0, 0))], w, 0, 0)
    refine yreach.at (S' := (7, [(4, .inr (.inr (0, 0))), (0, .inr (.inr (1, 0))), (1, .inl (a, a)), (2, .inl (i, i)), (3, .inl (v, v))], [], w, 0, 0)) (q := _) rfl rfl ?_
    refine yreach.at (S' := (9, [(4, .inr (.inr (0, 0))), (0, .inr (.inr (1, 0))), (1, .inl (a, a)), (2, .inl (i, i)), (3, .inl (v, v))], [.inr (.inr (0, 0))], w, 0, 0)) (q := _) rfl rfl ?_
    refine yreach.at (S' := (12, [(4, .inr (.inr (0, 0))), (0, .inr (.inr (1, 0))), (1, .inl (a, a)), (2, .inl (i, i)), (3, .inl (v, v))], [], w, 0, 0)) (q := _) rfl rfl ?_
    refine yreach.at (S' := (13, [(4, .inr (.inr (0, 0))), (0, .inr (.inr (1, 0))), (1, .inl (a, a)), (2, .inl (i, i)), (3, .inl (v, v))], [.inl (-1, -1)], w, 0, 0)) (q := _) rfl rfl ?_
    exact yreach.ret (q := (some (.inl (-1, -1)), w, 0, 0)) ((xstep_at rfl).trans rfl) rfl
set_option maxHeartbeats 4000000 in
theorem zc_tear {ks : List Nat} {w : XW} {S T : ZS} (hU : zU ks w S T) {a : Int} : ∃ w', XMet l D vwCl (tysX tA) tA ex (xSTX ++ [sc]) xSV xNW xNF xTs xm16 [.inr (.inr (1, 0)), .inl (a, a)] w (some (.inl ((zTrA S a), (zTrA S a)))) w' ∧ zU ks w' (zTrS S a) T := by
  obtain ⟨fs, hw, g1, g2⟩ := zf0 hU.1 hU.2.1
  by_cases ha : 0 ≤ a ∧ a < 6
  · obtain ⟨r, rfl⟩ : ∃ r : Nat, a = (r : Int) := ⟨a.toNat, by omega⟩
    have hr : r < 6 := by omega
    have hs : 0 + r < 10 := by omega
    obtain ⟨z, es, c1, c2, c3, c4⟩ := hU.2.2.1.2.2 (0 + r) hs
    have n0 : ¬ ((r : Int) < 0 ∨ 6 ≤ (r : Int)) := by omega
    have eA : zTrA S (r : Int) = (match S r with
      | none => -3
      | some L => 1) := if_neg n0
    have eS : zTrS S (r : Int) = (match S r with
      | none => S
      | some L => zup S r none) := if_neg n0
    rw [eA, eS]
    rw [Nat.zero_add] at c4
    cases hS : S r with
    | none =>
      rw [hS] at c4
      obtain ⟨w2, m2, hU2⟩ := zfound (l := l) (D := D) (tA := tA) (ex := ex) (sc := sc) hU (v := 1) (by decide)
      refine ⟨w2, zex (j := 16) rfl (Nat.le_of_ble_eq_true rfl) ?_, hU2⟩
      refine yreach.at (S' := (1, [(0, .inr (.inr (1, 0))), (1, .inl ((r : Int), (r : Int)))], [.inr (.inr (1, 0))], w, 0, 0)) (q := _) rfl rfl ?_
      refine yreach.at (S' := (2, [(0, .inr (.inr (1, 0))), (1, .inl ((r : Int), (r : Int)))], [.inl ((r : Int), (r : Int)), .inr (.inr (1, 0))], w, 0, 0)) (q := _) rfl rfl ?_
      refine ycall_at (N := xm9) (ro := some (.inr (.inr (1, 25 + 2 * (0 + r))))) (w' := w) (recv := true) (i := .invokevirtual 78) (a := 9) (na := 2) (z := 0) rfl (fun _ => rfl) rfl (zrow_in hU hr) ⟨Nat.le_of_ble_eq_true rfl, Nat.le_of_ble_eq_true rfl, Nat.le_of_ble_eq_true rfl, Nat.le_of_ble_eq_true rfl, Nat.le_of_ble_eq_true rfl, Nat.le_of_ble_eq_true rfl, (xrecv_at (as := [.inl ((r : Int), (r : Int))]) hw)⟩ ?_
      show yreach (ySt sc xm16) (yJm l D tA ex sc xm16) (_) (5, [(0, .inr (.inr (1, 0))), (1, .inl ((r : Int), (r : Int)))], [.inr (.inr (1, 25 + 2 * (0 + r)))], w, 0, 0)
      refine yreach.at (S' := (6, [(2, .inr (.inr (1, 25 + 2 * (0 + r)))), (0, .inr (.inr (1, 0))), (1, .inl ((r : Int), (r : Int)))], [], w, 0, 0)) (q := _) rfl rfl ?_
      refine yreach.at (S' := (7, [(2, .inr (.inr (1, 25 + 2 * (0 + r)))), (0, .inr (.inr (1, 0))), (1, .inl ((r : Int), (r : Int)))], [.inr (.inr (1, 25 + 2 * (0 + r)))], w, 0, 0)) (q := _) rfl rfl ?_
      refine yreach.at (S' := (12, [(2, .inr (.inr (1, 25 + 2 * (0 + r)))), (0, .inr (.inr (1, 0))), (1, .inl ((r : Int), (r : Int)))], [], w, 0, 0)) (q := _) rfl rfl ?_
      refine yreach.at (S' := (13, [(2, .inr (.inr (1, 25 + 2 * (0 + r)))), (0, .inr (.inr (1, 0))), (1, .inl ((r : Int), (r : Int)))], [.inr (.inr (1, 25 + 2 * (0 + r)))], w, 0, 0)) (q := _) rfl rfl ?_
      refine ycall_at (N := xm13) (ro := some (.inl (1, 1))) (w' := w) (recv := true) (i := .invokevirtual 90) (a := 13) (na := 1) (z := 0) rfl (fun _ => rfl) rfl (zmis_y c1 c4) ⟨Nat.le_of_ble_eq_true rfl, Nat.le_of_ble_eq_true rfl, Nat.le_of_ble_eq_true rfl, Nat.le_of_ble_eq_true rfl, Nat.le_of_ble_eq_true rfl, Nat.le_of_ble_eq_true rfl, (xrecv_at (as := []) c1)⟩ ?_
      show yreach (ySt sc xm16) (yJm l D tA ex sc xm16) (_) (16, [(2, .inr (.inr (1, 25 + 2 * (0 + r)))), (0, .inr (.inr (1, 0))), (1, .inl ((r : Int), (r : Int)))], [.inl (1, 1)], w, 0, 0)
      refine yreach.at (S' := (19, [(2, .inr (.inr (1, 25 + 2 * (0 + r)))), (0, .inr (.inr (1, 0))), (1, .inl ((r : Int), (r : Int)))], [], w, 0, 0)) (q := _) rfl (sx_if (o := false) (zcmp xceq_of (decide_eq_false (by omega)))) ?_
      refine yreach.at (S' := (20, [(2, .inr (.inr (1, 25 + 2 * (0 + r)))), (0, .inr (.inr (1, 0))), (1, .inl ((r : Int), (r : Int)))], [.inr (.inr (1, 0))], w, 0, 0)) (q := _) rfl rfl ?_
      refine yreach.at (S' := (21, [(2, .inr (.inr (1, 25 + 2 * (0 + r)))), (0, .inr (.inr (1, 0))), (1, .inl ((r : Int), (r : Int)))], [.inl (1, 1), .inr (.inr (1, 0))], w, 0, 0)) (q := _) rfl rfl ?_
      refine ycall_at (N := xm10) (ro := some (.inl (-3, -3))) (w' := w2) (recv := true) (i := .invokevirtual 82) (a := 10) (na := 2) (z := 0) rfl (fun _ => rfl) rfl m2 ⟨Nat.le_of_ble_eq_true rfl, Nat.le_of_ble_eq_true rfl, Nat.le_of_ble_eq_true rfl, Nat.le_of_ble_eq_true rfl, Nat.le_of_ble_eq_true rfl, Nat.le_of_ble_eq_true rfl, (xrecv_at (as := [.inl (1, 1)]) hw)⟩ ?_
      show yreach (ySt sc xm16) (yJm l D tA ex sc xm16) (_) (24, [(2, .inr (.inr (1, 25 + 2 * (0 + r)))), (0, .inr (.inr (1, 0))), (1, .inl ((r : Int), (r : Int)))], [.inl (-3, -3)], w2, 0, 0)
      exact yreach.ret (q := (some (.inl (-3, -3)), w2, 0, 0)) ((xstep_at rfl).trans rfl) rfl
    | some L =>
      rw [hS] at c4
      have hz : 0 ≤ z ∧ z ≤ 40 := by
        have h1 := c4.1
        have h2 := c4.2.1
        omega
      have c1l := (List.getElem?_eq_some_iff.mp c1).1
      have hne : (25 + 2 * (0 + r)) ≠ (26 + 2 * (0 + r)) := by omega
      refine ⟨(w.set (25 + 2 * (0 + r)) (.inl (4, [.inr (.inr (1, 26 + 2 * (0 + r))), .inl (-1, -1)]))), zex (j := 16) rfl (Nat.le_of_ble_eq_true rfl) ?_, yheap_setf hU.1 (zks_o hU.2.1 hs) (show yKD 3 = some yK_3 from rfl) c1 (f := 1) rfl ⟨_, List.mem_cons_self, -1, rfl, by decide, by decide, by decide, by decide⟩ rfl, hU.2.1, by
        have h5 := zCA_up (w' := (w.set (25 + 2 * (0 + r)) (.inl (4, [.inr (.inr (1, 26 + 2 * (0 + r))), .inl (-1, -1)])))) (o := none) hU.2.2.1 hs (fun i h1 h2 => by rw [List.getElem?_set_ne (fun e => h1 e.symm)]) ⟨-1, es, List.getElem?_set_self c1l, by rw [List.getElem?_set_ne hne]; exact c2, c3, by show (-1 : Int) < 0; decide⟩
        rw [show zup S r none = zup S (0 + r) none by rw [Nat.zero_add]]
        exact h5, zMA_eq hU.2.2.2 (fun i h => by rw [List.getElem?_set_ne (by omega)])⟩
      refine yreach.at (S' := (1, [(0, .inr (.inr (1, 0))), (1, .inl ((r : Int), (r : Int)))], [.inr (.inr (1, 0))], w, 0, 0)) (q := _) rfl rfl ?_
      refine yreach.at (S' := (2, [(0, .inr (.inr (1, 0))), (1, .inl ((r : Int), (r : Int)))], [.inl ((r : Int), (r : Int)), .inr (.inr (1, 0))], w, 0, 0)) (q := _) rfl rfl ?_
      refine ycall_at (N := xm9) (ro := some (.inr (.inr (1, 25 + 2 * (0 + r))))) (w' := w) (recv := true) (i := .invokevirtual 78) (a := 9) (na := 2) (z := 0) rfl (fun _ => rfl) rfl (zrow_in hU hr) ⟨Nat.le_of_ble_eq_true rfl, Nat.le_of_ble_eq_true rfl, Nat.le_of_ble_eq_true rfl, Nat.le_of_ble_eq_true rfl, Nat.le_of_ble_eq_true rfl, Nat.le_of_ble_eq_true rfl, (xrecv_at (as := [.inl ((r : Int), (r : Int))]) hw)⟩ ?_
      show yreach (ySt sc xm16) (yJm l D tA ex sc xm16) (_) (5, [(0, .inr (.inr (1, 0))), (1, .inl ((r : Int), (r : Int)))], [.inr (.inr (1, 25 + 2 * (0 + r)))], w, 0, 0)
      refine yreach.at (S' := (6, [(2, .inr (.inr (1, 25 + 2 * (0 + r)))), (0, .inr (.inr (1, 0))), (1, .inl ((r : Int), (r : Int)))], [], w, 0, 0)) (q := _) rfl rfl ?_
      refine yreach.at (S' := (7, [(2, .inr (.inr (1, 25 + 2 * (0 + r)))), (0, .inr (.inr (1, 0))), (1, .inl ((r : Int), (r : Int)))], [.inr (.inr (1, 25 + 2 * (0 + r)))], w, 0, 0)) (q := _) rfl rfl ?_
      refine yreach.at (S' := (12, [(2, .inr (.inr (1, 25 + 2 * (0 + r)))), (0, .inr (.inr (1, 0))), (1, .inl ((r : Int), (r : Int)))], [], w, 0, 0)) (q := _) rfl rfl ?_
      refine yreach.at (S' := (13, [(2, .inr (.inr (1, 25 + 2 * (0 + r)))), (0, .inr (.inr (1, 0))), (1, .inl ((r : Int), (r : Int)))], [.inr (.inr (1, 25 + 2 * (0 + r)))], w, 0, 0)) (q := _) rfl rfl ?_
      refine ycall_at (N := xm13) (ro := some (.inl (0, 0))) (w' := w) (recv := true) (i := .invokevirtual 90) (a := 13) (na := 1) (z := 0) rfl (fun _ => rfl) rfl (zmis_n c1 hz.1) ⟨Nat.le_of_ble_eq_true rfl, Nat.le_of_ble_eq_true rfl, Nat.le_of_ble_eq_true rfl, Nat.le_of_ble_eq_true rfl, Nat.le_of_ble_eq_true rfl, Nat.le_of_ble_eq_true rfl, (xrecv_at (as := []) c1)⟩ ?_
      show yreach (ySt sc xm16) (yJm l D tA ex sc xm16) (_) (16, [(2, .inr (.inr (1, 25 + 2 * (0 + r)))), (0, .inr (.inr (1, 0))), (1, .inl ((r : Int), (r : Int)))], [.inl (0, 0)], w, 0, 0)
      refine yreach.at (S' := (25, [(2, .inr (.inr (1, 25 + 2 * (0 + r)))), (0, .inr (.inr (1, 0))), (1, .inl ((r : Int), (r : Int)))], [], w, 0, 0)) (q := _) rfl (sx_if (o := true) (zcmp xceq_of (decide_eq_true (by omega)))) ?_
      refine yreach.at (S' := (26, [(2, .inr (.inr (1, 25 + 2 * (0 + r)))), (0, .inr (.inr (1, 0))), (1, .inl ((r : Int), (r : Int)))], [.inr (.inr (1, 25 + 2 * (0 + r)))], w, 0, 0)) (q := _) rfl rfl ?_
      refine yreach.at (S' := (27, [(2, .inr (.inr (1, 25 + 2 * (0 + r)))), (0, .inr (.inr (1, 0))), (1, .inl ((r : Int), (r : Int)))], [.inl (-1, -1), .inr (.inr (1, 25 + 2 * (0 + r)))], w, 0, 0)) (q := _) rfl rfl ?_
      refine yreach.at (S' := (30, [(2, .inr (.inr (1, 25 + 2 * (0 + r)))), (0, .inr (.inr (1, 0))), (1, .inl ((r : Int), (r : Int)))], [], (w.set (25 + 2 * (0 + r)) (.inl (4, [.inr (.inr (1, 26 + 2 * (0 + r))), .inl (-1, -1)]))), 0, 0)) (q := _) rfl (by exact sy_put (ty := tyX4 1) c1 (Nat.le_of_ble_eq_true rfl) rfl) ?_
      refine yreach.at (S' := (31, [(2, .inr (.inr (1, 25 + 2 * (0 + r)))), (0, .inr (.inr (1, 0))), (1, .inl ((r : Int), (r : Int)))], [.inl (1, 1)], (w.set (25 + 2 * (0 + r)) (.inl (4, [.inr (.inr (1, 26 + 2 * (0 + r))), .inl (-1, -1)]))), 0, 0)) (q := _) rfl rfl ?_
      exact yreach.ret (q := (some (.inl (1, 1)), (w.set (25 + 2 * (0 + r)) (.inl (4, [.inr (.inr (1, 26 + 2 * (0 + r))), .inl (-1, -1)]))), 0, 0)) ((xstep_at rfl).trans rfl) rfl
  · have n1 : a < 0 ∨ 6 ≤ a := by omega
    rw [show zTrA S a = -1 from if_pos n1, show zTrS S a = S from if_pos n1]
    refine ⟨w, zex (j := 16) rfl (Nat.le_of_ble_eq_true rfl) ?_, hU⟩
    refine yreach.at (S' := (1, [(0, .inr (.inr (1, 0))), (1, .inl (a, a))], [.inr (.inr (1, 0))], w, 0, 0)) (q := _) rfl rfl ?_
    refine yreach.at (S' := (2, [(0, .inr (.inr (1, 0))), (1, .inl (a, a))], [.inl (a, a), .inr (.inr (1, 0))], w, 0, 0)) (q := _) rfl rfl ?_
    refine ycall_at (N := xm9) (ro := some (.inr (.inr (0, 0)))) (w' := w) (recv := true) (i := .invokevirtual 78) (a := 9) (na := 2) (z := 0) rfl (fun _ => rfl) rfl (zrow_no hU ha) ⟨Nat.le_of_ble_eq_true rfl, Nat.le_of_ble_eq_true rfl, Nat.le_of_ble_eq_true rfl, Nat.le_of_ble_eq_true rfl, Nat.le_of_ble_eq_true rfl, Nat.le_of_ble_eq_true rfl, (xrecv_at (as := [.inl (a, a)]) hw)⟩ ?_
    show yreach (ySt sc xm16) (yJm l D tA ex sc xm16) (_) (5, [(0, .inr (.inr (1, 0))), (1, .inl (a, a))], [.inr (.inr (0, 0))], w, 0, 0)
    refine yreach.at (S' := (6, [(2, .inr (.inr (0, 0))), (0, .inr (.inr (1, 0))), (1, .inl (a, a))], [], w, 0, 0)) (q := _) rfl rfl ?_
    refine yreach.at (S' := (7, [(2, .inr (.inr (0, 0))), (0, .inr (.inr (1, 0))), (1, .inl (a, a))], [.inr (.inr (0, 0))], w, 0, 0)) (q := _) rfl rfl ?_
    refine yreach.at (S' := (10, [(2, .inr (.inr (0, 0))), (0, .inr (.inr (1, 0))), (1, .inl (a, a))], [], w, 0, 0)) (q := _) rfl rfl ?_
    refine yreach.at (S' := (11, [(2, .inr (.inr (0, 0))), (0, .inr (.inr (1, 0))), (1, .inl (a, a))], [.inl (-1, -1)], w, 0, 0)) (q := _) rfl rfl ?_
    exact yreach.ret (q := (some (.inl (-1, -1)), w, 0, 0)) ((xstep_at rfl).trans rfl) rfl
set_option maxHeartbeats 8000000 in
theorem zc_copy {ks : List Nat} {w : XW} {S T : ZS} (hU : zU ks w S T) {a i b j n : Int} (hi : yrg i) (hj : yrg j) (hn : yrg n) : ∃ w', XMet l D vwCl (tysX tA) tA ex (xSTX ++ [sc]) xSV xNW xNF xTs xm17 [.inr (.inr (1, 0)), .inl (a, a), .inl (i, i), .inl (b, b), .inl (j, j), .inl (n, n)] w (some (.inl ((zCpA S a i b j n), (zCpA S a i b j n)))) w' ∧ zU ks w' (zCpS S a i b j n) T := by
  obtain ⟨fs, hw, g1, g2⟩ := zf0 hU.1 hU.2.1
  by_cases ha : 0 ≤ a ∧ a < 6
  · obtain ⟨r, rfl⟩ : ∃ r : Nat, a = (r : Int) := ⟨a.toNat, by omega⟩
    have hr : r < 6 := by omega
    by_cases hb : 0 ≤ b ∧ b < 6
    · obtain ⟨t, rfl⟩ : ∃ r : Nat, b = (r : Int) := ⟨b.toNat, by omega⟩
      have ht : t < 6 := by omega
      have n0 : ¬ ((r : Int) < 0 ∨ 6 ≤ (r : Int) ∨ (t : Int) < 0 ∨ 6 ≤ (t : Int)) := by omega
      unfold zCpA zCpS
      rw [if_neg n0, if_neg n0]
      by_cases hneg : n < 0
      · rw [if_pos hneg, if_pos hneg]
        obtain ⟨w2, m2, hU2⟩ := zfound (l := l) (D := D) (tA := tA) (ex := ex) (sc := sc) hU (v := 5) (by decide)
        refine ⟨w2, zex (j := 17) rfl (Nat.le_of_ble_eq_true rfl) ?_, hU2⟩
        refine yreach.at (S' := (1, [(0, .inr (.inr (1, 0))), (1, .inl ((r : Int), (r : Int))), (2, .inl (i, i)), (3, .inl ((t : Int), (t : Int))), (4, .inl (j, j)), (5, .inl (n, n))], [.inr (.inr (1, 0))], w, 0, 0)) (q := _) rfl rfl ?_
        refine yreach.at (S' := (2, [(0, .inr (.inr (1, 0))), (1, .inl ((r : Int), (r : Int))), (2, .inl (i, i)), (3, .inl ((t : Int), (t : Int))), (4, .inl (j, j)), (5, .inl (n, n))], [.inl ((r : Int), (r : Int)), .inr (.inr (1, 0))], w, 0, 0)) (q := _) rfl rfl ?_
        refine ycall_at (N := xm9) (ro := some (.inr (.inr (1, 25 + 2 * (0 + r))))) (w' := w) (recv := true) (i := .invokevirtual 78) (a := 9) (na := 2) (z := 0) rfl (fun _ => rfl) rfl (zrow_in hU hr) ⟨Nat.le_of_ble_eq_true rfl, Nat.le_of_ble_eq_true rfl, Nat.le_of_ble_eq_true rfl, Nat.le_of_ble_eq_true rfl, Nat.le_of_ble_eq_true rfl, Nat.le_of_ble_eq_true rfl, (xrecv_at (as := [.inl ((r : Int), (r : Int))]) hw)⟩ ?_
        show yreach (ySt sc xm17) (yJm l D tA ex sc xm17) (_) (5, [(0, .inr (.inr (1, 0))), (1, .inl ((r : Int), (r : Int))), (2, .inl (i, i)), (3, .inl ((t : Int), (t : Int))), (4, .inl (j, j)), (5, .inl (n, n))], [.inr (.inr (1, 25 + 2 * (0 + r)))], w, 0, 0)
        refine yreach.at (S' := (7, [(6, .inr (.inr (1, 25 + 2 * (0 + r)))), (0, .inr (.inr (1, 0))), (1, .inl ((r : Int), (r : Int))), (2, .inl (i, i)), (3, .inl ((t : Int), (t : Int))), (4, .inl (j, j)), (5, .inl (n, n))], [], w, 0, 0)) (q := _) rfl rfl ?_
        refine yreach.at (S' := (8, [(6, .inr (.inr (1, 25 + 2 * (0 + r)))), (0, .inr (.inr (1, 0))), (1, .inl ((r : Int), (r : Int))), (2, .inl (i, i)), (3, .inl ((t : Int), (t : Int))), (4, .inl (j, j)), (5, .inl (n, n))], [.inr (.inr (1, 0))], w, 0, 0)) (q := _) rfl rfl ?_
        refine yreach.at (S' := (9, [(6, .inr (.inr (1, 25 + 2 * (0 + r)))), (0, .inr (.inr (1, 0))), (1, .inl ((r : Int), (r : Int))), (2, .inl (i, i)), (3, .inl ((t : Int), (t : Int))), (4, .inl (j, j)), (5, .inl (n, n))], [.inl ((t : Int), (t : Int)), .inr (.inr (1, 0))], w, 0, 0)) (q := _) rfl rfl ?_
        refine ycall_at (N := xm9) (ro := some (.inr (.inr (1, 25 + 2 * (0 + t))))) (w' := w) (recv := true) (i := .invokevirtual 78) (a := 9) (na := 2) (z := 0) rfl (fun _ => rfl) rfl (zrow_in hU ht) ⟨Nat.le_of_ble_eq_true rfl, Nat.le_of_ble_eq_true rfl, Nat.le_of_ble_eq_true rfl, Nat.le_of_ble_eq_true rfl, Nat.le_of_ble_eq_true rfl, Nat.le_of_ble_eq_true rfl, (xrecv_at (as := [.inl ((t : Int), (t : Int))]) hw)⟩ ?_
        show yreach (ySt sc xm17) (yJm l D tA ex sc xm17) (_) (12, [(6, .inr (.inr (1, 25 + 2 * (0 + r)))), (0, .inr (.inr (1, 0))), (1, .inl ((r : Int), (r : Int))), (2, .inl (i, i)), (3, .inl ((t : Int), (t : Int))), (4, .inl (j, j)), (5, .inl (n, n))], [.inr (.inr (1, 25 + 2 * (0 + t)))], w, 0, 0)
        refine yreach.at (S' := (14, [(7, .inr (.inr (1, 25 + 2 * (0 + t)))), (6, .inr (.inr (1, 25 + 2 * (0 + r)))), (0, .inr (.inr (1, 0))), (1, .inl ((r : Int), (r : Int))), (2, .inl (i, i)), (3, .inl ((t : Int), (t : Int))), (4, .inl (j, j)), (5, .inl (n, n))], [], w, 0, 0)) (q := _) rfl rfl ?_
        refine yreach.at (S' := (16, [(7, .inr (.inr (1, 25 + 2 * (0 + t)))), (6, .inr (.inr (1, 25 + 2 * (0 + r)))), (0, .inr (.inr (1, 0))), (1, .inl ((r : Int), (r : Int))), (2, .inl (i, i)), (3, .inl ((t : Int), (t : Int))), (4, .inl (j, j)), (5, .inl (n, n))], [.inr (.inr (1, 25 + 2 * (0 + r)))], w, 0, 0)) (q := _) rfl rfl ?_
        refine yreach.at (S' := (19, [(7, .inr (.inr (1, 25 + 2 * (0 + t)))), (6, .inr (.inr (1, 25 + 2 * (0 + r)))), (0, .inr (.inr (1, 0))), (1, .inl ((r : Int), (r : Int))), (2, .inl (i, i)), (3, .inl ((t : Int), (t : Int))), (4, .inl (j, j)), (5, .inl (n, n))], [], w, 0, 0)) (q := _) rfl rfl ?_
        refine yreach.at (S' := (21, [(7, .inr (.inr (1, 25 + 2 * (0 + t)))), (6, .inr (.inr (1, 25 + 2 * (0 + r)))), (0, .inr (.inr (1, 0))), (1, .inl ((r : Int), (r : Int))), (2, .inl (i, i)), (3, .inl ((t : Int), (t : Int))), (4, .inl (j, j)), (5, .inl (n, n))], [.inr (.inr (1, 25 + 2 * (0 + t)))], w, 0, 0)) (q := _) rfl rfl ?_
        refine yreach.at (S' := (26, [(7, .inr (.inr (1, 25 + 2 * (0 + t)))), (6, .inr (.inr (1, 25 + 2 * (0 + r)))), (0, .inr (.inr (1, 0))), (1, .inl ((r : Int), (r : Int))), (2, .inl (i, i)), (3, .inl ((t : Int), (t : Int))), (4, .inl (j, j)), (5, .inl (n, n))], [], w, 0, 0)) (q := _) rfl rfl ?_
        refine yreach.at (S' := (28, [(7, .inr (.inr (1, 25 + 2 * (0 + t)))), (6, .inr (.inr (1, 25 + 2 * (0 + r)))), (0, .inr (.inr (1, 0))), (1, .inl ((r : Int), (r : Int))), (2, .inl (i, i)), (3, .inl ((t : Int), (t : Int))), (4, .inl (j, j)), (5, .inl (n, n))], [.inl (n, n)], w, 0, 0)) (q := _) rfl rfl ?_
        refine yreach.at (S' := (31, [(7, .inr (.inr (1, 25 + 2 * (0 + t)))), (6, .inr (.inr (1, 25 + 2 * (0 + r)))), (0, .inr (.inr (1, 0))), (1, .inl ((r : Int), (r : Int))), (2, .inl (i, i)), (3, .inl ((t : Int), (t : Int))), (4, .inl (j, j)), (5, .inl (n, n))], [], w, 0, 0)) (q := _) rfl (sx_if (o := false) (zcmp xge_of (decide_eq_false (by omega)))) ?_
        refine yreach.at (S' := (32, [(7, .inr (.inr (1, 25 + 2 * (0 + t)))), (6, .inr (.inr (1, 25 + 2 * (0 + r)))), (0, .inr (.inr (1, 0))), (1, .inl ((r : Int), (r : Int))), (2, .inl (i, i)), (3, .inl ((t : Int), (t : Int))), (4, .inl (j, j)), (5, .inl (n, n))], [.inr (.inr (1, 0))], w, 0, 0)) (q := _) rfl rfl ?_
        refine yreach.at (S' := (33, [(7, .inr (.inr (1, 25 + 2 * (0 + t)))), (6, .inr (.inr (1, 25 + 2 * (0 + r)))), (0, .inr (.inr (1, 0))), (1, .inl ((r : Int), (r : Int))), (2, .inl (i, i)), (3, .inl ((t : Int), (t : Int))), (4, .inl (j, j)), (5, .inl (n, n))], [.inl (5, 5), .inr (.inr (1, 0))], w, 0, 0)) (q := _) rfl rfl ?_
        refine ycall_at (N := xm10) (ro := some (.inl (-3, -3))) (w' := w2) (recv := true) (i := .invokevirtual 82) (a := 10) (na := 2) (z := 0) rfl (fun _ => rfl) rfl m2 ⟨Nat.le_of_ble_eq_true rfl, Nat.le_of_ble_eq_true rfl, Nat.le_of_ble_eq_true rfl, Nat.le_of_ble_eq_true rfl, Nat.le_of_ble_eq_true rfl, Nat.le_of_ble_eq_true rfl, (xrecv_at (as := [.inl (5, 5)]) hw)⟩ ?_
        show yreach (ySt sc xm17) (yJm l D tA ex sc xm17) (_) (36, [(7, .inr (.inr (1, 25 + 2 * (0 + t)))), (6, .inr (.inr (1, 25 + 2 * (0 + r)))), (0, .inr (.inr (1, 0))), (1, .inl ((r : Int), (r : Int))), (2, .inl (i, i)), (3, .inl ((t : Int), (t : Int))), (4, .inl (j, j)), (5, .inl (n, n))], [.inl (-3, -3)], w2, 0, 0)
        exact yreach.ret (q := (some (.inl (-3, -3)), w2, 0, 0)) ((xstep_at rfl).trans rfl) rfl
      rw [if_neg hneg, if_neg hneg]
      have hs : 0 + r < 10 := by omega
      have hs' : 0 + t < 10 := by omega
      obtain ⟨z, es, c1, c2, c3, c4⟩ := hU.2.2.1.2.2 (0 + r) hs
      obtain ⟨y, ed, d1, d2, d3, d4⟩ := hU.2.2.1.2.2 (0 + t) hs'
      rw [show ((r : Nat) : Int).toNat = r from rfl, show ((t : Nat) : Int).toNat = t from rfl]
      cases hS : S (0 + r) with
      | none =>
        rw [hS] at c4
        obtain ⟨w2, m2, hU2⟩ := zfound (l := l) (D := D) (tA := tA) (ex := ex) (sc := sc) hU (v := 1) (by decide)
        refine ⟨w2, zex (j := 17) rfl (Nat.le_of_ble_eq_true rfl) ?_, hU2⟩
        refine yreach.at (S' := (1, [(0, .inr (.inr (1, 0))), (1, .inl ((r : Int), (r : Int))), (2, .inl (i, i)), (3, .inl ((t : Int), (t : Int))), (4, .inl (j, j)), (5, .inl (n, n))], [.inr (.inr (1, 0))], w, 0, 0)) (q := _) rfl rfl ?_
        refine yreach.at (S' := (2, [(0, .inr (.inr (1, 0))), (1, .inl ((r : Int), (r : Int))), (2, .inl (i, i)), (3, .inl ((t : Int), (t : Int))), (4, .inl (j, j)), (5, .inl (n, n))], [.inl ((r : Int), (r : Int)), .inr (.inr (1, 0))], w, 0, 0)) (q := _) rfl rfl ?_
        refine ycall_at (N := xm9) (ro := some (.inr (.inr (1, 25 + 2 * (0 + r))))) (w' := w) (recv := true) (i := .invokevirtual 78) (a := 9) (na := 2) (z := 0) rfl (fun _ => rfl) rfl (zrow_in hU hr) ⟨Nat.le_of_ble_eq_true rfl, Nat.le_of_ble_eq_true rfl, Nat.le_of_ble_eq_true rfl, Nat.le_of_ble_eq_true rfl, Nat.le_of_ble_eq_true rfl, Nat.le_of_ble_eq_true rfl, (xrecv_at (as := [.inl ((r : Int), (r : Int))]) hw)⟩ ?_
        show yreach (ySt sc xm17) (yJm l D tA ex sc xm17) (_) (5, [(0, .inr (.inr (1, 0))), (1, .inl ((r : Int), (r : Int))), (2, .inl (i, i)), (3, .inl ((t : Int), (t : Int))), (4, .inl (j, j)), (5, .inl (n, n))], [.inr (.inr (1, 25 + 2 * (0 + r)))], w, 0, 0)
        refine yreach.at (S' := (7, [(6, .inr (.inr (1, 25 + 2 * (0 + r)))), (0, .inr (.inr (1, 0))), (1, .inl ((r : Int), (r : Int))), (2, .inl (i, i)), (3, .inl ((t : Int), (t : Int))), (4, .inl (j, j)), (5, .inl (n, n))], [], w, 0, 0)) (q := _) rfl rfl ?_
        refine yreach.at (S' := (8, [(6, .inr (.inr (1, 25 + 2 * (0 + r)))), (0, .inr (.inr (1, 0))), (1, .inl ((r : Int), (r : Int))), (2, .inl (i, i)), (3, .inl ((t : Int), (t : Int))), (4, .inl (j, j)), (5, .inl (n, n))], [.inr (.inr (1, 0))], w, 0, 0)) (q := _) rfl rfl ?_
        refine yreach.at (S' := (9, [(6, .inr (.inr (1, 25 + 2 * (0 + r)))), (0, .inr (.inr (1, 0))), (1, .inl ((r : Int), (r : Int))), (2, .inl (i, i)), (3, .inl ((t : Int), (t : Int))), (4, .inl (j, j)), (5, .inl (n, n))], [.inl ((t : Int), (t : Int)), .inr (.inr (1, 0))], w, 0, 0)) (q := _) rfl rfl ?_
        refine ycall_at (N := xm9) (ro := some (.inr (.inr (1, 25 + 2 * (0 + t))))) (w' := w) (recv := true) (i := .invokevirtual 78) (a := 9) (na := 2) (z := 0) rfl (fun _ => rfl) rfl (zrow_in hU ht) ⟨Nat.le_of_ble_eq_true rfl, Nat.le_of_ble_eq_true rfl, Nat.le_of_ble_eq_true rfl, Nat.le_of_ble_eq_true rfl, Nat.le_of_ble_eq_true rfl, Nat.le_of_ble_eq_true rfl, (xrecv_at (as := [.inl ((t : Int), (t : Int))]) hw)⟩ ?_
        show yreach (ySt sc xm17) (yJm l D tA ex sc xm17) (_) (12, [(6, .inr (.inr (1, 25 + 2 * (0 + r)))), (0, .inr (.inr (1, 0))), (1, .inl ((r : Int), (r : Int))), (2, .inl (i, i)), (3, .inl ((t : Int), (t : Int))), (4, .inl (j, j)), (5, .inl (n, n))], [.inr (.inr (1, 25 + 2 * (0 + t)))], w, 0, 0)
        refine yreach.at (S' := (14, [(7, .inr (.inr (1, 25 + 2 * (0 + t)))), (6, .inr (.inr (1, 25 + 2 * (0 + r)))), (0, .inr (.inr (1, 0))), (1, .inl ((r : Int), (r : Int))), (2, .inl (i, i)), (3, .inl ((t : Int), (t : Int))), (4, .inl (j, j)), (5, .inl (n, n))], [], w, 0, 0)) (q := _) rfl rfl ?_
        refine yreach.at (S' := (16, [(7, .inr (.inr (1, 25 + 2 * (0 + t)))), (6, .inr (.inr (1, 25 + 2 * (0 + r)))), (0, .inr (.inr (1, 0))), (1, .inl ((r : Int), (r : Int))), (2, .inl (i, i)), (3, .inl ((t : Int), (t : Int))), (4, .inl (j, j)), (5, .inl (n, n))], [.inr (.inr (1, 25 + 2 * (0 + r)))], w, 0, 0)) (q := _) rfl rfl ?_
        refine yreach.at (S' := (19, [(7, .inr (.inr (1, 25 + 2 * (0 + t)))), (6, .inr (.inr (1, 25 + 2 * (0 + r)))), (0, .inr (.inr (1, 0))), (1, .inl ((r : Int), (r : Int))), (2, .inl (i, i)), (3, .inl ((t : Int), (t : Int))), (4, .inl (j, j)), (5, .inl (n, n))], [], w, 0, 0)) (q := _) rfl rfl ?_
        refine yreach.at (S' := (21, [(7, .inr (.inr (1, 25 + 2 * (0 + t)))), (6, .inr (.inr (1, 25 + 2 * (0 + r)))), (0, .inr (.inr (1, 0))), (1, .inl ((r : Int), (r : Int))), (2, .inl (i, i)), (3, .inl ((t : Int), (t : Int))), (4, .inl (j, j)), (5, .inl (n, n))], [.inr (.inr (1, 25 + 2 * (0 + t)))], w, 0, 0)) (q := _) rfl rfl ?_
        refine yreach.at (S' := (26, [(7, .inr (.inr (1, 25 + 2 * (0 + t)))), (6, .inr (.inr (1, 25 + 2 * (0 + r)))), (0, .inr (.inr (1, 0))), (1, .inl ((r : Int), (r : Int))), (2, .inl (i, i)), (3, .inl ((t : Int), (t : Int))), (4, .inl (j, j)), (5, .inl (n, n))], [], w, 0, 0)) (q := _) rfl rfl ?_
        refine yreach.at (S' := (28, [(7, .inr (.inr (1, 25 + 2 * (0 + t)))), (6, .inr (.inr (1, 25 + 2 * (0 + r)))), (0, .inr (.inr (1, 0))), (1, .inl ((r : Int), (r : Int))), (2, .inl (i, i)), (3, .inl ((t : Int), (t : Int))), (4, .inl (j, j)), (5, .inl (n, n))], [.inl (n, n)], w, 0, 0)) (q := _) rfl rfl ?_
        refine yreach.at (S' := (37, [(7, .inr (.inr (1, 25 + 2 * (0 + t)))), (6, .inr (.inr (1, 25 + 2 * (0 + r)))), (0, .inr (.inr (1, 0))), (1, .inl ((r : Int), (r : Int))), (2, .inl (i, i)), (3, .inl ((t : Int), (t : Int))), (4, .inl (j, j)), (5, .inl (n, n))], [], w, 0, 0)) (q := _) rfl (sx_if (o := true) (zcmp xge_of (decide_eq_true (by omega)))) ?_
        refine yreach.at (S' := (39, [(7, .inr (.inr (1, 25 + 2 * (0 + t)))), (6, .inr (.inr (1, 25 + 2 * (0 + r)))), (0, .inr (.inr (1, 0))), (1, .inl ((r : Int), (r : Int))), (2, .inl (i, i)), (3, .inl ((t : Int), (t : Int))), (4, .inl (j, j)), (5, .inl (n, n))], [.inr (.inr (1, 25 + 2 * (0 + r)))], w, 0, 0)) (q := _) rfl rfl ?_
        refine ycall_at (N := xm13) (ro := some (.inl (1, 1))) (w' := w) (recv := true) (i := .invokevirtual 90) (a := 13) (na := 1) (z := 0) rfl (fun _ => rfl) rfl (zmis_y c1 c4) ⟨Nat.le_of_ble_eq_true rfl, Nat.le_of_ble_eq_true rfl, Nat.le_of_ble_eq_true rfl, Nat.le_of_ble_eq_true rfl, Nat.le_of_ble_eq_true rfl, Nat.le_of_ble_eq_true rfl, (xrecv_at (as := []) c1)⟩ ?_
        show yreach (ySt sc xm17) (yJm l D tA ex sc xm17) (_) (42, [(7, .inr (.inr (1, 25 + 2 * (0 + t)))), (6, .inr (.inr (1, 25 + 2 * (0 + r)))), (0, .inr (.inr (1, 0))), (1, .inl ((r : Int), (r : Int))), (2, .inl (i, i)), (3, .inl ((t : Int), (t : Int))), (4, .inl (j, j)), (5, .inl (n, n))], [.inl (1, 1)], w, 0, 0)
        refine yreach.at (S' := (53, [(7, .inr (.inr (1, 25 + 2 * (0 + t)))), (6, .inr (.inr (1, 25 + 2 * (0 + r)))), (0, .inr (.inr (1, 0))), (1, .inl ((r : Int), (r : Int))), (2, .inl (i, i)), (3, .inl ((t : Int), (t : Int))), (4, .inl (j, j)), (5, .inl (n, n))], [], w, 0, 0)) (q := _) rfl (sx_if (o := true) (zcmp xcne_of (decide_eq_true (by omega)))) ?_
        refine yreach.at (S' := (54, [(7, .inr (.inr (1, 25 + 2 * (0 + t)))), (6, .inr (.inr (1, 25 + 2 * (0 + r)))), (0, .inr (.inr (1, 0))), (1, .inl ((r : Int), (r : Int))), (2, .inl (i, i)), (3, .inl ((t : Int), (t : Int))), (4, .inl (j, j)), (5, .inl (n, n))], [.inr (.inr (1, 0))], w, 0, 0)) (q := _) rfl rfl ?_
        refine yreach.at (S' := (55, [(7, .inr (.inr (1, 25 + 2 * (0 + t)))), (6, .inr (.inr (1, 25 + 2 * (0 + r)))), (0, .inr (.inr (1, 0))), (1, .inl ((r : Int), (r : Int))), (2, .inl (i, i)), (3, .inl ((t : Int), (t : Int))), (4, .inl (j, j)), (5, .inl (n, n))], [.inl (1, 1), .inr (.inr (1, 0))], w, 0, 0)) (q := _) rfl rfl ?_
        refine ycall_at (N := xm10) (ro := some (.inl (-3, -3))) (w' := w2) (recv := true) (i := .invokevirtual 82) (a := 10) (na := 2) (z := 0) rfl (fun _ => rfl) rfl m2 ⟨Nat.le_of_ble_eq_true rfl, Nat.le_of_ble_eq_true rfl, Nat.le_of_ble_eq_true rfl, Nat.le_of_ble_eq_true rfl, Nat.le_of_ble_eq_true rfl, Nat.le_of_ble_eq_true rfl, (xrecv_at (as := [.inl (1, 1)]) hw)⟩ ?_
        show yreach (ySt sc xm17) (yJm l D tA ex sc xm17) (_) (58, [(7, .inr (.inr (1, 25 + 2 * (0 + t)))), (6, .inr (.inr (1, 25 + 2 * (0 + r)))), (0, .inr (.inr (1, 0))), (1, .inl ((r : Int), (r : Int))), (2, .inl (i, i)), (3, .inl ((t : Int), (t : Int))), (4, .inl (j, j)), (5, .inl (n, n))], [.inl (-3, -3)], w2, 0, 0)
        exact yreach.ret (q := (some (.inl (-3, -3)), w2, 0, 0)) ((xstep_at rfl).trans rfl) rfl
      | some L =>
        rw [hS] at c4
        have hz : 0 ≤ z ∧ z ≤ 40 := by
          have h1 := c4.1
          have h2 := c4.2.1
          omega
        dsimp only
        cases hS' : S (0 + t) with
        | none =>
          rw [hS'] at d4
          obtain ⟨w2, m2, hU2⟩ := zfound (l := l) (D := D) (tA := tA) (ex := ex) (sc := sc) hU (v := 1) (by decide)
          refine ⟨w2, zex (j := 17) rfl (Nat.le_of_ble_eq_true rfl) ?_, hU2⟩
          refine yreach.at (S' := (1, [(0, .inr (.inr (1, 0))), (1, .inl ((r : Int), (r : Int))), (2, .inl (i, i)), (3, .inl ((t : Int), (t : Int))), (4, .inl (j, j)), (5, .inl (n, n))], [.inr (.inr (1, 0))], w, 0, 0)) (q := _) rfl rfl ?_
          refine yreach.at (S' := (2, [(0, .inr (.inr (1, 0))), (1, .inl ((r : Int), (r : Int))), (2, .inl (i, i)), (3, .inl ((t : Int), (t : Int))), (4, .inl (j, j)), (5, .inl (n, n))], [.inl ((r : Int), (r : Int)), .inr (.inr (1, 0))], w, 0, 0)) (q := _) rfl rfl ?_
          refine ycall_at (N := xm9) (ro := some (.inr (.inr (1, 25 + 2 * (0 + r))))) (w' := w) (recv := true) (i := .invokevirtual 78) (a := 9) (na := 2) (z := 0) rfl (fun _ => rfl) rfl (zrow_in hU hr) ⟨Nat.le_of_ble_eq_true rfl, Nat.le_of_ble_eq_true rfl, Nat.le_of_ble_eq_true rfl, Nat.le_of_ble_eq_true rfl, Nat.le_of_ble_eq_true rfl, Nat.le_of_ble_eq_true rfl, (xrecv_at (as := [.inl ((r : Int), (r : Int))]) hw)⟩ ?_
          show yreach (ySt sc xm17) (yJm l D tA ex sc xm17) (_) (5, [(0, .inr (.inr (1, 0))), (1, .inl ((r : Int), (r : Int))), (2, .inl (i, i)), (3, .inl ((t : Int), (t : Int))), (4, .inl (j, j)), (5, .inl (n, n))], [.inr (.inr (1, 25 + 2 * (0 + r)))], w, 0, 0)
          refine yreach.at (S' := (7, [(6, .inr (.inr (1, 25 + 2 * (0 + r)))), (0, .inr (.inr (1, 0))), (1, .inl ((r : Int), (r : Int))), (2, .inl (i, i)), (3, .inl ((t : Int), (t : Int))), (4, .inl (j, j)), (5, .inl (n, n))], [], w, 0, 0)) (q := _) rfl rfl ?_
          refine yreach.at (S' := (8, [(6, .inr (.inr (1, 25 + 2 * (0 + r)))), (0, .inr (.inr (1, 0))), (1, .inl ((r : Int), (r : Int))), (2, .inl (i, i)), (3, .inl ((t : Int), (t : Int))), (4, .inl (j, j)), (5, .inl (n, n))], [.inr (.inr (1, 0))], w, 0, 0)) (q := _) rfl rfl ?_
          refine yreach.at (S' := (9, [(6, .inr (.inr (1, 25 + 2 * (0 + r)))), (0, .inr (.inr (1, 0))), (1, .inl ((r : Int), (r : Int))), (2, .inl (i, i)), (3, .inl ((t : Int), (t : Int))), (4, .inl (j, j)), (5, .inl (n, n))], [.inl ((t : Int), (t : Int)), .inr (.inr (1, 0))], w, 0, 0)) (q := _) rfl rfl ?_
          refine ycall_at (N := xm9) (ro := some (.inr (.inr (1, 25 + 2 * (0 + t))))) (w' := w) (recv := true) (i := .invokevirtual 78) (a := 9) (na := 2) (z := 0) rfl (fun _ => rfl) rfl (zrow_in hU ht) ⟨Nat.le_of_ble_eq_true rfl, Nat.le_of_ble_eq_true rfl, Nat.le_of_ble_eq_true rfl, Nat.le_of_ble_eq_true rfl, Nat.le_of_ble_eq_true rfl, Nat.le_of_ble_eq_true rfl, (xrecv_at (as := [.inl ((t : Int), (t : Int))]) hw)⟩ ?_
          show yreach (ySt sc xm17) (yJm l D tA ex sc xm17) (_) (12, [(6, .inr (.inr (1, 25 + 2 * (0 + r)))), (0, .inr (.inr (1, 0))), (1, .inl ((r : Int), (r : Int))), (2, .inl (i, i)), (3, .inl ((t : Int), (t : Int))), (4, .inl (j, j)), (5, .inl (n, n))], [.inr (.inr (1, 25 + 2 * (0 + t)))], w, 0, 0)
          refine yreach.at (S' := (14, [(7, .inr (.inr (1, 25 + 2 * (0 + t)))), (6, .inr (.inr (1, 25 + 2 * (0 + r)))), (0, .inr (.inr (1, 0))), (1, .inl ((r : Int), (r : Int))), (2, .inl (i, i)), (3, .inl ((t : Int), (t : Int))), (4, .inl (j, j)), (5, .inl (n, n))], [], w, 0, 0)) (q := _) rfl rfl ?_
          refine yreach.at (S' := (16, [(7, .inr (.inr (1, 25 + 2 * (0 + t)))), (6, .inr (.inr (1, 25 + 2 * (0 + r)))), (0, .inr (.inr (1, 0))), (1, .inl ((r : Int), (r : Int))), (2, .inl (i, i)), (3, .inl ((t : Int), (t : Int))), (4, .inl (j, j)), (5, .inl (n, n))], [.inr (.inr (1, 25 + 2 * (0 + r)))], w, 0, 0)) (q := _) rfl rfl ?_
          refine yreach.at (S' := (19, [(7, .inr (.inr (1, 25 + 2 * (0 + t)))), (6, .inr (.inr (1, 25 + 2 * (0 + r)))), (0, .inr (.inr (1, 0))), (1, .inl ((r : Int), (r : Int))), (2, .inl (i, i)), (3, .inl ((t : Int), (t : Int))), (4, .inl (j, j)), (5, .inl (n, n))], [], w, 0, 0)) (q := _) rfl rfl ?_
          refine yreach.at (S' := (21, [(7, .inr (.inr (1, 25 + 2 * (0 + t)))), (6, .inr (.inr (1, 25 + 2 * (0 + r)))), (0, .inr (.inr (1, 0))), (1, .inl ((r : Int), (r : Int))), (2, .inl (i, i)), (3, .inl ((t : Int), (t : Int))), (4, .inl (j, j)), (5, .inl (n, n))], [.inr (.inr (1, 25 + 2 * (0 + t)))], w, 0, 0)) (q := _) rfl rfl ?_
          refine yreach.at (S' := (26, [(7, .inr (.inr (1, 25 + 2 * (0 + t)))), (6, .inr (.inr (1, 25 + 2 * (0 + r)))), (0, .inr (.inr (1, 0))), (1, .inl ((r : Int), (r : Int))), (2, .inl (i, i)), (3, .inl ((t : Int), (t : Int))), (4, .inl (j, j)), (5, .inl (n, n))], [], w, 0, 0)) (q := _) rfl rfl ?_
          refine yreach.at (S' := (28, [(7, .inr (.inr (1, 25 + 2 * (0 + t)))), (6, .inr (.inr (1, 25 + 2 * (0 + r)))), (0, .inr (.inr (1, 0))), (1, .inl ((r : Int), (r : Int))), (2, .inl (i, i)), (3, .inl ((t : Int), (t : Int))), (4, .inl (j, j)), (5, .inl (n, n))], [.inl (n, n)], w, 0, 0)) (q := _) rfl rfl ?_
          refine yreach.at (S' := (37, [(7, .inr (.inr (1, 25 + 2 * (0 + t)))), (6, .inr (.inr (1, 25 + 2 * (0 + r)))), (0, .inr (.inr (1, 0))), (1, .inl ((r : Int), (r : Int))), (2, .inl (i, i)), (3, .inl ((t : Int), (t : Int))), (4, .inl (j, j)), (5, .inl (n, n))], [], w, 0, 0)) (q := _) rfl (sx_if (o := true) (zcmp xge_of (decide_eq_true (by omega)))) ?_
          refine yreach.at (S' := (39, [(7, .inr (.inr (1, 25 + 2 * (0 + t)))), (6, .inr (.inr (1, 25 + 2 * (0 + r)))), (0, .inr (.inr (1, 0))), (1, .inl ((r : Int), (r : Int))), (2, .inl (i, i)), (3, .inl ((t : Int), (t : Int))), (4, .inl (j, j)), (5, .inl (n, n))], [.inr (.inr (1, 25 + 2 * (0 + r)))], w, 0, 0)) (q := _) rfl rfl ?_
          refine ycall_at (N := xm13) (ro := some (.inl (0, 0))) (w' := w) (recv := true) (i := .invokevirtual 90) (a := 13) (na := 1) (z := 0) rfl (fun _ => rfl) rfl (zmis_n c1 hz.1) ⟨Nat.le_of_ble_eq_true rfl, Nat.le_of_ble_eq_true rfl, Nat.le_of_ble_eq_true rfl, Nat.le_of_ble_eq_true rfl, Nat.le_of_ble_eq_true rfl, Nat.le_of_ble_eq_true rfl, (xrecv_at (as := []) c1)⟩ ?_
          show yreach (ySt sc xm17) (yJm l D tA ex sc xm17) (_) (42, [(7, .inr (.inr (1, 25 + 2 * (0 + t)))), (6, .inr (.inr (1, 25 + 2 * (0 + r)))), (0, .inr (.inr (1, 0))), (1, .inl ((r : Int), (r : Int))), (2, .inl (i, i)), (3, .inl ((t : Int), (t : Int))), (4, .inl (j, j)), (5, .inl (n, n))], [.inl (0, 0)], w, 0, 0)
          refine yreach.at (S' := (45, [(7, .inr (.inr (1, 25 + 2 * (0 + t)))), (6, .inr (.inr (1, 25 + 2 * (0 + r)))), (0, .inr (.inr (1, 0))), (1, .inl ((r : Int), (r : Int))), (2, .inl (i, i)), (3, .inl ((t : Int), (t : Int))), (4, .inl (j, j)), (5, .inl (n, n))], [], w, 0, 0)) (q := _) rfl (sx_if (o := false) (zcmp xcne_of (decide_eq_false (by omega)))) ?_
          refine yreach.at (S' := (47, [(7, .inr (.inr (1, 25 + 2 * (0 + t)))), (6, .inr (.inr (1, 25 + 2 * (0 + r)))), (0, .inr (.inr (1, 0))), (1, .inl ((r : Int), (r : Int))), (2, .inl (i, i)), (3, .inl ((t : Int), (t : Int))), (4, .inl (j, j)), (5, .inl (n, n))], [.inr (.inr (1, 25 + 2 * (0 + t)))], w, 0, 0)) (q := _) rfl rfl ?_
          refine ycall_at (N := xm13) (ro := some (.inl (1, 1))) (w' := w) (recv := true) (i := .invokevirtual 90) (a := 13) (na := 1) (z := 0) rfl (fun _ => rfl) rfl (zmis_y d1 d4) ⟨Nat.le_of_ble_eq_true rfl, Nat.le_of_ble_eq_true rfl, Nat.le_of_ble_eq_true rfl, Nat.le_of_ble_eq_true rfl, Nat.le_of_ble_eq_true rfl, Nat.le_of_ble_eq_true rfl, (xrecv_at (as := []) d1)⟩ ?_
          show yreach (ySt sc xm17) (yJm l D tA ex sc xm17) (_) (50, [(7, .inr (.inr (1, 25 + 2 * (0 + t)))), (6, .inr (.inr (1, 25 + 2 * (0 + r)))), (0, .inr (.inr (1, 0))), (1, .inl ((r : Int), (r : Int))), (2, .inl (i, i)), (3, .inl ((t : Int), (t : Int))), (4, .inl (j, j)), (5, .inl (n, n))], [.inl (1, 1)], w, 0, 0)
          refine yreach.at (S' := (53, [(7, .inr (.inr (1, 25 + 2 * (0 + t)))), (6, .inr (.inr (1, 25 + 2 * (0 + r)))), (0, .inr (.inr (1, 0))), (1, .inl ((r : Int), (r : Int))), (2, .inl (i, i)), (3, .inl ((t : Int), (t : Int))), (4, .inl (j, j)), (5, .inl (n, n))], [], w, 0, 0)) (q := _) rfl (sx_if (o := false) (zcmp xceq_of (decide_eq_false (by omega)))) ?_
          refine yreach.at (S' := (54, [(7, .inr (.inr (1, 25 + 2 * (0 + t)))), (6, .inr (.inr (1, 25 + 2 * (0 + r)))), (0, .inr (.inr (1, 0))), (1, .inl ((r : Int), (r : Int))), (2, .inl (i, i)), (3, .inl ((t : Int), (t : Int))), (4, .inl (j, j)), (5, .inl (n, n))], [.inr (.inr (1, 0))], w, 0, 0)) (q := _) rfl rfl ?_
          refine yreach.at (S' := (55, [(7, .inr (.inr (1, 25 + 2 * (0 + t)))), (6, .inr (.inr (1, 25 + 2 * (0 + r)))), (0, .inr (.inr (1, 0))), (1, .inl ((r : Int), (r : Int))), (2, .inl (i, i)), (3, .inl ((t : Int), (t : Int))), (4, .inl (j, j)), (5, .inl (n, n))], [.inl (1, 1), .inr (.inr (1, 0))], w, 0, 0)) (q := _) rfl rfl ?_
          refine ycall_at (N := xm10) (ro := some (.inl (-3, -3))) (w' := w2) (recv := true) (i := .invokevirtual 82) (a := 10) (na := 2) (z := 0) rfl (fun _ => rfl) rfl m2 ⟨Nat.le_of_ble_eq_true rfl, Nat.le_of_ble_eq_true rfl, Nat.le_of_ble_eq_true rfl, Nat.le_of_ble_eq_true rfl, Nat.le_of_ble_eq_true rfl, Nat.le_of_ble_eq_true rfl, (xrecv_at (as := [.inl (1, 1)]) hw)⟩ ?_
          show yreach (ySt sc xm17) (yJm l D tA ex sc xm17) (_) (58, [(7, .inr (.inr (1, 25 + 2 * (0 + t)))), (6, .inr (.inr (1, 25 + 2 * (0 + r)))), (0, .inr (.inr (1, 0))), (1, .inl ((r : Int), (r : Int))), (2, .inl (i, i)), (3, .inl ((t : Int), (t : Int))), (4, .inl (j, j)), (5, .inl (n, n))], [.inl (-3, -3)], w2, 0, 0)
          exact yreach.ret (q := (some (.inl (-3, -3)), w2, 0, 0)) ((xstep_at rfl).trans rfl) rfl
        | some M =>
          rw [hS'] at d4
          have hy : 0 ≤ y ∧ y ≤ 40 := by
            have h1 := d4.1
            have h2 := d4.2.1
            omega
          dsimp only
          by_cases h1 : 0 ≤ i ∧ i + n ≤ L.length
          · by_cases h2 : 0 ≤ j ∧ j + n ≤ M.length
            · obtain ⟨i, rfl⟩ : ∃ u : Nat, i = (u : Int) := ⟨i.toNat, by omega⟩
              obtain ⟨j, rfl⟩ : ∃ u : Nat, j = (u : Int) := ⟨j.toNat, by omega⟩
              obtain ⟨n, rfl⟩ : ∃ u : Nat, n = (u : Int) := ⟨n.toNat, by omega⟩
              have hh : 0 ≤ (i : Int) ∧ 0 ≤ (j : Int) ∧ (i : Int) + (n : Int) ≤ (L.length : Int) ∧ (j : Int) + (n : Int) ≤ (M.length : Int) := by omega
              rw [if_pos hh, if_pos hh, show ((i : Nat) : Int).toNat = i from rfl, show ((j : Nat) : Int).toNat = j from rfl, show ((n : Nat) : Int).toNat = n from rfl]
              have hiL : i + n ≤ L.length := by omega
              have hjM : j + n ≤ M.length := by omega
              have hL40 := c4.2.1
              have hM40 := d4.2.1
              have d2l := (List.getElem?_eq_some_iff.mp d2).1
              have hl : (xcpy es ed i j n).length = 40 := (zcp_len (by omega) (by omega)).trans d3
              obtain ⟨_, ee, _, ea⟩ := yheap_a hU.1 (zks_a hU.2.1 hs) (show yKD 4 = some yK_4 from rfl)
              rw [c2] at ee
              cases ee
              obtain ⟨_, ef, _, eb⟩ := yheap_a hU.1 (zks_a hU.2.1 hs') (show yKD 4 = some yK_4 from rfl)
              rw [d2] at ef
              cases ef
              have hy4 : yheap yKD ks (w.set (26 + 2 * (0 + t)) (.inr (0, xcpy es ed i j n))) := zheap_arr hU.1 (zks_a hU.2.1 hs') (show yKD 4 = some yK_4 from rfl) d2 hl (fun m v hm => by
                by_cases k1 : m < j
                · exact eb m v ((zcp_lo k1 (by omega)).symm.trans hm)
                · by_cases k2 : m < j + n
                  · obtain ⟨u, rfl⟩ : ∃ u, m = j + u := ⟨m - j, by omega⟩
                    exact ea (i + u) v ((zcp_mi (by omega) (by omega) (by omega)).symm.trans hm)
                  · exact eb m v ((zcp_hi (by omega) (by omega) (by omega)).symm.trans hm)) rfl
              refine ⟨(w.set (26 + 2 * (0 + t)) (.inr (0, xcpy es ed i j n))), zex (j := 17) rfl (Nat.le_of_ble_eq_true rfl) ?_, hy4, hU.2.1, zCA_up hU.2.2.1 hs' (fun q h1 h2 => by rw [List.getElem?_set_ne (fun e => h2 e.symm)]) ⟨y, _, by rw [List.getElem?_set_ne (by omega)]; exact d1, List.getElem?_set_self d2l, hl, zrep_cpy c4 d4 hiL hjM c3 d3⟩, zMA_eq hU.2.2.2 (fun q h => by rw [List.getElem?_set_ne (by omega)])⟩
              refine yreach.at (S' := (1, [(0, .inr (.inr (1, 0))), (1, .inl ((r : Int), (r : Int))), (2, .inl ((i : Int), (i : Int))), (3, .inl ((t : Int), (t : Int))), (4, .inl ((j : Int), (j : Int))), (5, .inl ((n : Int), (n : Int)))], [.inr (.inr (1, 0))], w, 0, 0)) (q := _) rfl rfl ?_
              refine yreach.at (S' := (2, [(0, .inr (.inr (1, 0))), (1, .inl ((r : Int), (r : Int))), (2, .inl ((i : Int), (i : Int))), (3, .inl ((t : Int), (t : Int))), (4, .inl ((j : Int), (j : Int))), (5, .inl ((n : Int), (n : Int)))], [.inl ((r : Int), (r : Int)), .inr (.inr (1, 0))], w, 0, 0)) (q := _) rfl rfl ?_
              refine ycall_at (N := xm9) (ro := some (.inr (.inr (1, 25 + 2 * (0 + r))))) (w' := w) (recv := true) (i := .invokevirtual 78) (a := 9) (na := 2) (z := 0) rfl (fun _ => rfl) rfl (zrow_in hU hr) ⟨Nat.le_of_ble_eq_true rfl, Nat.le_of_ble_eq_true rfl, Nat.le_of_ble_eq_true rfl, Nat.le_of_ble_eq_true rfl, Nat.le_of_ble_eq_true rfl, Nat.le_of_ble_eq_true rfl, (xrecv_at (as := [.inl ((r : Int), (r : Int))]) hw)⟩ ?_
              show yreach (ySt sc xm17) (yJm l D tA ex sc xm17) (_) (5, [(0, .inr (.inr (1, 0))), (1, .inl ((r : Int), (r : Int))), (2, .inl ((i : Int), (i : Int))), (3, .inl ((t : Int), (t : Int))), (4, .inl ((j : Int), (j : Int))), (5, .inl ((n : Int), (n : Int)))], [.inr (.inr (1, 25 + 2 * (0 + r)))], w, 0, 0)
              refine yreach.at (S' := (7, [(6, .inr (.inr (1, 25 + 2 * (0 + r)))), (0, .inr (.inr (1, 0))), (1, .inl ((r : Int), (r : Int))), (2, .inl ((i : Int), (i : Int))), (3, .inl ((t : Int), (t : Int))), (4, .inl ((j : Int), (j : Int))), (5, .inl ((n : Int), (n : Int)))], [], w, 0, 0)) (q := _) rfl rfl ?_
              refine yreach.at (S' := (8, [(6, .inr (.inr (1, 25 + 2 * (0 + r)))), (0, .inr (.inr (1, 0))), (1, .inl ((r : Int), (r : Int))), (2, .inl ((i : Int), (i : Int))), (3, .inl ((t : Int), (t : Int))), (4, .inl ((j : Int), (j : Int))), (5, .inl ((n : Int), (n : Int)))], [.inr (.inr (1, 0))], w, 0, 0)) (q := _) rfl rfl ?_
              refine yreach.at (S' := (9, [(6, .inr (.inr (1, 25 + 2 * (0 + r)))), (0, .inr (.inr (1, 0))), (1, .inl ((r : Int), (r : Int))), (2, .inl ((i : Int), (i : Int))), (3, .inl ((t : Int), (t : Int))), (4, .inl ((j : Int), (j : Int))), (5, .inl ((n : Int), (n : Int)))], [.inl ((t : Int), (t : Int)), .inr (.inr (1, 0))], w, 0, 0)) (q := _) rfl rfl ?_
              refine ycall_at (N := xm9) (ro := some (.inr (.inr (1, 25 + 2 * (0 + t))))) (w' := w) (recv := true) (i := .invokevirtual 78) (a := 9) (na := 2) (z := 0) rfl (fun _ => rfl) rfl (zrow_in hU ht) ⟨Nat.le_of_ble_eq_true rfl, Nat.le_of_ble_eq_true rfl, Nat.le_of_ble_eq_true rfl, Nat.le_of_ble_eq_true rfl, Nat.le_of_ble_eq_true rfl, Nat.le_of_ble_eq_true rfl, (xrecv_at (as := [.inl ((t : Int), (t : Int))]) hw)⟩ ?_
              show yreach (ySt sc xm17) (yJm l D tA ex sc xm17) (_) (12, [(6, .inr (.inr (1, 25 + 2 * (0 + r)))), (0, .inr (.inr (1, 0))), (1, .inl ((r : Int), (r : Int))), (2, .inl ((i : Int), (i : Int))), (3, .inl ((t : Int), (t : Int))), (4, .inl ((j : Int), (j : Int))), (5, .inl ((n : Int), (n : Int)))], [.inr (.inr (1, 25 + 2 * (0 + t)))], w, 0, 0)
              refine yreach.at (S' := (14, [(7, .inr (.inr (1, 25 + 2 * (0 + t)))), (6, .inr (.inr (1, 25 + 2 * (0 + r)))), (0, .inr (.inr (1, 0))), (1, .inl ((r : Int), (r : Int))), (2, .inl ((i : Int), (i : Int))), (3, .inl ((t : Int), (t : Int))), (4, .inl ((j : Int), (j : Int))), (5, .inl ((n : Int), (n : Int)))], [], w, 0, 0)) (q := _) rfl rfl ?_
              refine yreach.at (S' := (16, [(7, .inr (.inr (1, 25 + 2 * (0 + t)))), (6, .inr (.inr (1, 25 + 2 * (0 + r)))), (0, .inr (.inr (1, 0))), (1, .inl ((r : Int), (r : Int))), (2, .inl ((i : Int), (i : Int))), (3, .inl ((t : Int), (t : Int))), (4, .inl ((j : Int), (j : Int))), (5, .inl ((n : Int), (n : Int)))], [.inr (.inr (1, 25 + 2 * (0 + r)))], w, 0, 0)) (q := _) rfl rfl ?_
              refine yreach.at (S' := (19, [(7, .inr (.inr (1, 25 + 2 * (0 + t)))), (6, .inr (.inr (1, 25 + 2 * (0 + r)))), (0, .inr (.inr (1, 0))), (1, .inl ((r : Int), (r : Int))), (2, .inl ((i : Int), (i : Int))), (3, .inl ((t : Int), (t : Int))), (4, .inl ((j : Int), (j : Int))), (5, .inl ((n : Int), (n : Int)))], [], w, 0, 0)) (q := _) rfl rfl ?_
              refine yreach.at (S' := (21, [(7, .inr (.inr (1, 25 + 2 * (0 + t)))), (6, .inr (.inr (1, 25 + 2 * (0 + r)))), (0, .inr (.inr (1, 0))), (1, .inl ((r : Int), (r : Int))), (2, .inl ((i : Int), (i : Int))), (3, .inl ((t : Int), (t : Int))), (4, .inl ((j : Int), (j : Int))), (5, .inl ((n : Int), (n : Int)))], [.inr (.inr (1, 25 + 2 * (0 + t)))], w, 0, 0)) (q := _) rfl rfl ?_
              refine yreach.at (S' := (26, [(7, .inr (.inr (1, 25 + 2 * (0 + t)))), (6, .inr (.inr (1, 25 + 2 * (0 + r)))), (0, .inr (.inr (1, 0))), (1, .inl ((r : Int), (r : Int))), (2, .inl ((i : Int), (i : Int))), (3, .inl ((t : Int), (t : Int))), (4, .inl ((j : Int), (j : Int))), (5, .inl ((n : Int), (n : Int)))], [], w, 0, 0)) (q := _) rfl rfl ?_
              refine yreach.at (S' := (28, [(7, .inr (.inr (1, 25 + 2 * (0 + t)))), (6, .inr (.inr (1, 25 + 2 * (0 + r)))), (0, .inr (.inr (1, 0))), (1, .inl ((r : Int), (r : Int))), (2, .inl ((i : Int), (i : Int))), (3, .inl ((t : Int), (t : Int))), (4, .inl ((j : Int), (j : Int))), (5, .inl ((n : Int), (n : Int)))], [.inl ((n : Int), (n : Int))], w, 0, 0)) (q := _) rfl rfl ?_
              refine yreach.at (S' := (37, [(7, .inr (.inr (1, 25 + 2 * (0 + t)))), (6, .inr (.inr (1, 25 + 2 * (0 + r)))), (0, .inr (.inr (1, 0))), (1, .inl ((r : Int), (r : Int))), (2, .inl ((i : Int), (i : Int))), (3, .inl ((t : Int), (t : Int))), (4, .inl ((j : Int), (j : Int))), (5, .inl ((n : Int), (n : Int)))], [], w, 0, 0)) (q := _) rfl (sx_if (o := true) (zcmp xge_of (decide_eq_true (by omega)))) ?_
              refine yreach.at (S' := (39, [(7, .inr (.inr (1, 25 + 2 * (0 + t)))), (6, .inr (.inr (1, 25 + 2 * (0 + r)))), (0, .inr (.inr (1, 0))), (1, .inl ((r : Int), (r : Int))), (2, .inl ((i : Int), (i : Int))), (3, .inl ((t : Int), (t : Int))), (4, .inl ((j : Int), (j : Int))), (5, .inl ((n : Int), (n : Int)))], [.inr (.inr (1, 25 + 2 * (0 + r)))], w, 0, 0)) (q := _) rfl rfl ?_
              refine ycall_at (N := xm13) (ro := some (.inl (0, 0))) (w' := w) (recv := true) (i := .invokevirtual 90) (a := 13) (na := 1) (z := 0) rfl (fun _ => rfl) rfl (zmis_n c1 hz.1) ⟨Nat.le_of_ble_eq_true rfl, Nat.le_of_ble_eq_true rfl, Nat.le_of_ble_eq_true rfl, Nat.le_of_ble_eq_true rfl, Nat.le_of_ble_eq_true rfl, Nat.le_of_ble_eq_true rfl, (xrecv_at (as := []) c1)⟩ ?_
              show yreach (ySt sc xm17) (yJm l D tA ex sc xm17) (_) (42, [(7, .inr (.inr (1, 25 + 2 * (0 + t)))), (6, .inr (.inr (1, 25 + 2 * (0 + r)))), (0, .inr (.inr (1, 0))), (1, .inl ((r : Int), (r : Int))), (2, .inl ((i : Int), (i : Int))), (3, .inl ((t : Int), (t : Int))), (4, .inl ((j : Int), (j : Int))), (5, .inl ((n : Int), (n : Int)))], [.inl (0, 0)], w, 0, 0)
              refine yreach.at (S' := (45, [(7, .inr (.inr (1, 25 + 2 * (0 + t)))), (6, .inr (.inr (1, 25 + 2 * (0 + r)))), (0, .inr (.inr (1, 0))), (1, .inl ((r : Int), (r : Int))), (2, .inl ((i : Int), (i : Int))), (3, .inl ((t : Int), (t : Int))), (4, .inl ((j : Int), (j : Int))), (5, .inl ((n : Int), (n : Int)))], [], w, 0, 0)) (q := _) rfl (sx_if (o := false) (zcmp xcne_of (decide_eq_false (by omega)))) ?_
              refine yreach.at (S' := (47, [(7, .inr (.inr (1, 25 + 2 * (0 + t)))), (6, .inr (.inr (1, 25 + 2 * (0 + r)))), (0, .inr (.inr (1, 0))), (1, .inl ((r : Int), (r : Int))), (2, .inl ((i : Int), (i : Int))), (3, .inl ((t : Int), (t : Int))), (4, .inl ((j : Int), (j : Int))), (5, .inl ((n : Int), (n : Int)))], [.inr (.inr (1, 25 + 2 * (0 + t)))], w, 0, 0)) (q := _) rfl rfl ?_
              refine ycall_at (N := xm13) (ro := some (.inl (0, 0))) (w' := w) (recv := true) (i := .invokevirtual 90) (a := 13) (na := 1) (z := 0) rfl (fun _ => rfl) rfl (zmis_n d1 hy.1) ⟨Nat.le_of_ble_eq_true rfl, Nat.le_of_ble_eq_true rfl, Nat.le_of_ble_eq_true rfl, Nat.le_of_ble_eq_true rfl, Nat.le_of_ble_eq_true rfl, Nat.le_of_ble_eq_true rfl, (xrecv_at (as := []) d1)⟩ ?_
              show yreach (ySt sc xm17) (yJm l D tA ex sc xm17) (_) (50, [(7, .inr (.inr (1, 25 + 2 * (0 + t)))), (6, .inr (.inr (1, 25 + 2 * (0 + r)))), (0, .inr (.inr (1, 0))), (1, .inl ((r : Int), (r : Int))), (2, .inl ((i : Int), (i : Int))), (3, .inl ((t : Int), (t : Int))), (4, .inl ((j : Int), (j : Int))), (5, .inl ((n : Int), (n : Int)))], [.inl (0, 0)], w, 0, 0)
              refine yreach.at (S' := (59, [(7, .inr (.inr (1, 25 + 2 * (0 + t)))), (6, .inr (.inr (1, 25 + 2 * (0 + r)))), (0, .inr (.inr (1, 0))), (1, .inl ((r : Int), (r : Int))), (2, .inl ((i : Int), (i : Int))), (3, .inl ((t : Int), (t : Int))), (4, .inl ((j : Int), (j : Int))), (5, .inl ((n : Int), (n : Int)))], [], w, 0, 0)) (q := _) rfl (sx_if (o := true) (zcmp xceq_of (decide_eq_true (by omega)))) ?_
              refine yreach.at (S' := (61, [(7, .inr (.inr (1, 25 + 2 * (0 + t)))), (6, .inr (.inr (1, 25 + 2 * (0 + r)))), (0, .inr (.inr (1, 0))), (1, .inl ((r : Int), (r : Int))), (2, .inl ((i : Int), (i : Int))), (3, .inl ((t : Int), (t : Int))), (4, .inl ((j : Int), (j : Int))), (5, .inl ((n : Int), (n : Int)))], [.inr (.inr (1, 25 + 2 * (0 + r)))], w, 0, 0)) (q := _) rfl rfl ?_
              refine yreach.at (S' := (62, [(7, .inr (.inr (1, 25 + 2 * (0 + t)))), (6, .inr (.inr (1, 25 + 2 * (0 + r)))), (0, .inr (.inr (1, 0))), (1, .inl ((r : Int), (r : Int))), (2, .inl ((i : Int), (i : Int))), (3, .inl ((t : Int), (t : Int))), (4, .inl ((j : Int), (j : Int))), (5, .inl ((n : Int), (n : Int)))], [.inl ((i : Int), (i : Int)), .inr (.inr (1, 25 + 2 * (0 + r)))], w, 0, 0)) (q := _) rfl rfl ?_
              refine yreach.at (S' := (64, [(7, .inr (.inr (1, 25 + 2 * (0 + t)))), (6, .inr (.inr (1, 25 + 2 * (0 + r)))), (0, .inr (.inr (1, 0))), (1, .inl ((r : Int), (r : Int))), (2, .inl ((i : Int), (i : Int))), (3, .inl ((t : Int), (t : Int))), (4, .inl ((j : Int), (j : Int))), (5, .inl ((n : Int), (n : Int)))], [.inl ((n : Int), (n : Int)), .inl ((i : Int), (i : Int)), .inr (.inr (1, 25 + 2 * (0 + r)))], w, 0, 0)) (q := _) rfl rfl ?_
              refine ycall_at (N := xm14) (ro := some (.inl (1, 1))) (w' := w) (recv := true) (i := .invokevirtual 94) (a := 14) (na := 3) (z := 0) rfl (fun _ => rfl) rfl (zhol_y c1 (by have h1 := c4.1; omega) hz.2) ⟨Nat.le_of_ble_eq_true rfl, Nat.le_of_ble_eq_true rfl, Nat.le_of_ble_eq_true rfl, Nat.le_of_ble_eq_true rfl, Nat.le_of_ble_eq_true rfl, Nat.le_of_ble_eq_true rfl, (xrecv_at (as := [.inl ((i : Int), (i : Int)), .inl ((n : Int), (n : Int))]) c1)⟩ ?_
              show yreach (ySt sc xm17) (yJm l D tA ex sc xm17) (_) (67, [(7, .inr (.inr (1, 25 + 2 * (0 + t)))), (6, .inr (.inr (1, 25 + 2 * (0 + r)))), (0, .inr (.inr (1, 0))), (1, .inl ((r : Int), (r : Int))), (2, .inl ((i : Int), (i : Int))), (3, .inl ((t : Int), (t : Int))), (4, .inl ((j : Int), (j : Int))), (5, .inl ((n : Int), (n : Int)))], [.inl (1, 1)], w, 0, 0)
              refine yreach.at (S' := (70, [(7, .inr (.inr (1, 25 + 2 * (0 + t)))), (6, .inr (.inr (1, 25 + 2 * (0 + r)))), (0, .inr (.inr (1, 0))), (1, .inl ((r : Int), (r : Int))), (2, .inl ((i : Int), (i : Int))), (3, .inl ((t : Int), (t : Int))), (4, .inl ((j : Int), (j : Int))), (5, .inl ((n : Int), (n : Int)))], [], w, 0, 0)) (q := _) rfl (sx_if (o := false) (zcmp xceq_of (decide_eq_false (by omega)))) ?_
              refine yreach.at (S' := (72, [(7, .inr (.inr (1, 25 + 2 * (0 + t)))), (6, .inr (.inr (1, 25 + 2 * (0 + r)))), (0, .inr (.inr (1, 0))), (1, .inl ((r : Int), (r : Int))), (2, .inl ((i : Int), (i : Int))), (3, .inl ((t : Int), (t : Int))), (4, .inl ((j : Int), (j : Int))), (5, .inl ((n : Int), (n : Int)))], [.inr (.inr (1, 25 + 2 * (0 + t)))], w, 0, 0)) (q := _) rfl rfl ?_
              refine yreach.at (S' := (74, [(7, .inr (.inr (1, 25 + 2 * (0 + t)))), (6, .inr (.inr (1, 25 + 2 * (0 + r)))), (0, .inr (.inr (1, 0))), (1, .inl ((r : Int), (r : Int))), (2, .inl ((i : Int), (i : Int))), (3, .inl ((t : Int), (t : Int))), (4, .inl ((j : Int), (j : Int))), (5, .inl ((n : Int), (n : Int)))], [.inl ((j : Int), (j : Int)), .inr (.inr (1, 25 + 2 * (0 + t)))], w, 0, 0)) (q := _) rfl rfl ?_
              refine yreach.at (S' := (76, [(7, .inr (.inr (1, 25 + 2 * (0 + t)))), (6, .inr (.inr (1, 25 + 2 * (0 + r)))), (0, .inr (.inr (1, 0))), (1, .inl ((r : Int), (r : Int))), (2, .inl ((i : Int), (i : Int))), (3, .inl ((t : Int), (t : Int))), (4, .inl ((j : Int), (j : Int))), (5, .inl ((n : Int), (n : Int)))], [.inl ((n : Int), (n : Int)), .inl ((j : Int), (j : Int)), .inr (.inr (1, 25 + 2 * (0 + t)))], w, 0, 0)) (q := _) rfl rfl ?_
              refine ycall_at (N := xm14) (ro := some (.inl (1, 1))) (w' := w) (recv := true) (i := .invokevirtual 94) (a := 14) (na := 3) (z := 0) rfl (fun _ => rfl) rfl (zhol_y d1 (by have h1 := d4.1; omega) hy.2) ⟨Nat.le_of_ble_eq_true rfl, Nat.le_of_ble_eq_true rfl, Nat.le_of_ble_eq_true rfl, Nat.le_of_ble_eq_true rfl, Nat.le_of_ble_eq_true rfl, Nat.le_of_ble_eq_true rfl, (xrecv_at (as := [.inl ((j : Int), (j : Int)), .inl ((n : Int), (n : Int))]) d1)⟩ ?_
              show yreach (ySt sc xm17) (yJm l D tA ex sc xm17) (_) (79, [(7, .inr (.inr (1, 25 + 2 * (0 + t)))), (6, .inr (.inr (1, 25 + 2 * (0 + r)))), (0, .inr (.inr (1, 0))), (1, .inl ((r : Int), (r : Int))), (2, .inl ((i : Int), (i : Int))), (3, .inl ((t : Int), (t : Int))), (4, .inl ((j : Int), (j : Int))), (5, .inl ((n : Int), (n : Int)))], [.inl (1, 1)], w, 0, 0)
              refine yreach.at (S' := (88, [(7, .inr (.inr (1, 25 + 2 * (0 + t)))), (6, .inr (.inr (1, 25 + 2 * (0 + r)))), (0, .inr (.inr (1, 0))), (1, .inl ((r : Int), (r : Int))), (2, .inl ((i : Int), (i : Int))), (3, .inl ((t : Int), (t : Int))), (4, .inl ((j : Int), (j : Int))), (5, .inl ((n : Int), (n : Int)))], [], w, 0, 0)) (q := _) rfl (sx_if (o := true) (zcmp xcne_of (decide_eq_true (by omega)))) ?_
              refine yreach.at (S' := (90, [(7, .inr (.inr (1, 25 + 2 * (0 + t)))), (6, .inr (.inr (1, 25 + 2 * (0 + r)))), (0, .inr (.inr (1, 0))), (1, .inl ((r : Int), (r : Int))), (2, .inl ((i : Int), (i : Int))), (3, .inl ((t : Int), (t : Int))), (4, .inl ((j : Int), (j : Int))), (5, .inl ((n : Int), (n : Int)))], [.inr (.inr (1, 25 + 2 * (0 + r)))], w, 0, 0)) (q := _) rfl rfl ?_
              refine yreach.at (S' := (93, [(7, .inr (.inr (1, 25 + 2 * (0 + t)))), (6, .inr (.inr (1, 25 + 2 * (0 + r)))), (0, .inr (.inr (1, 0))), (1, .inl ((r : Int), (r : Int))), (2, .inl ((i : Int), (i : Int))), (3, .inl ((t : Int), (t : Int))), (4, .inl ((j : Int), (j : Int))), (5, .inl ((n : Int), (n : Int)))], [.inr (.inr (1, 26 + 2 * (0 + r)))], w, 0, 0)) (q := _) rfl (sx_get c1 rfl) ?_
              refine yreach.at (S' := (94, [(7, .inr (.inr (1, 25 + 2 * (0 + t)))), (6, .inr (.inr (1, 25 + 2 * (0 + r)))), (0, .inr (.inr (1, 0))), (1, .inl ((r : Int), (r : Int))), (2, .inl ((i : Int), (i : Int))), (3, .inl ((t : Int), (t : Int))), (4, .inl ((j : Int), (j : Int))), (5, .inl ((n : Int), (n : Int)))], [.inl ((i : Int), (i : Int)), .inr (.inr (1, 26 + 2 * (0 + r)))], w, 0, 0)) (q := _) rfl rfl ?_
              refine yreach.at (S' := (96, [(7, .inr (.inr (1, 25 + 2 * (0 + t)))), (6, .inr (.inr (1, 25 + 2 * (0 + r)))), (0, .inr (.inr (1, 0))), (1, .inl ((r : Int), (r : Int))), (2, .inl ((i : Int), (i : Int))), (3, .inl ((t : Int), (t : Int))), (4, .inl ((j : Int), (j : Int))), (5, .inl ((n : Int), (n : Int)))], [.inr (.inr (1, 25 + 2 * (0 + t))), .inl ((i : Int), (i : Int)), .inr (.inr (1, 26 + 2 * (0 + r)))], w, 0, 0)) (q := _) rfl rfl ?_
              refine yreach.at (S' := (99, [(7, .inr (.inr (1, 25 + 2 * (0 + t)))), (6, .inr (.inr (1, 25 + 2 * (0 + r)))), (0, .inr (.inr (1, 0))), (1, .inl ((r : Int), (r : Int))), (2, .inl ((i : Int), (i : Int))), (3, .inl ((t : Int), (t : Int))), (4, .inl ((j : Int), (j : Int))), (5, .inl ((n : Int), (n : Int)))], [.inr (.inr (1, 26 + 2 * (0 + t))), .inl ((i : Int), (i : Int)), .inr (.inr (1, 26 + 2 * (0 + r)))], w, 0, 0)) (q := _) rfl (sx_get d1 rfl) ?_
              refine yreach.at (S' := (101, [(7, .inr (.inr (1, 25 + 2 * (0 + t)))), (6, .inr (.inr (1, 25 + 2 * (0 + r)))), (0, .inr (.inr (1, 0))), (1, .inl ((r : Int), (r : Int))), (2, .inl ((i : Int), (i : Int))), (3, .inl ((t : Int), (t : Int))), (4, .inl ((j : Int), (j : Int))), (5, .inl ((n : Int), (n : Int)))], [.inl ((j : Int), (j : Int)), .inr (.inr (1, 26 + 2 * (0 + t))), .inl ((i : Int), (i : Int)), .inr (.inr (1, 26 + 2 * (0 + r)))], w, 0, 0)) (q := _) rfl rfl ?_
              refine yreach.at (S' := (103, [(7, .inr (.inr (1, 25 + 2 * (0 + t)))), (6, .inr (.inr (1, 25 + 2 * (0 + r)))), (0, .inr (.inr (1, 0))), (1, .inl ((r : Int), (r : Int))), (2, .inl ((i : Int), (i : Int))), (3, .inl ((t : Int), (t : Int))), (4, .inl ((j : Int), (j : Int))), (5, .inl ((n : Int), (n : Int)))], [.inl ((n : Int), (n : Int)), .inl ((j : Int), (j : Int)), .inr (.inr (1, 26 + 2 * (0 + t))), .inl ((i : Int), (i : Int)), .inr (.inr (1, 26 + 2 * (0 + r)))], w, 0, 0)) (q := _) rfl rfl ?_
              refine yreach.at (S' := (106, [(7, .inr (.inr (1, 25 + 2 * (0 + t)))), (6, .inr (.inr (1, 25 + 2 * (0 + r)))), (0, .inr (.inr (1, 0))), (1, .inl ((r : Int), (r : Int))), (2, .inl ((i : Int), (i : Int))), (3, .inl ((t : Int), (t : Int))), (4, .inl ((j : Int), (j : Int))), (5, .inl ((n : Int), (n : Int)))], [], (w.set (26 + 2 * (0 + t)) (.inr (0, xcpy es ed i j n))), 0, 0)) (q := _) rfl (by
                show xh_cpy xm17 103 [(7, .inr (.inr (1, 25 + 2 * (0 + t)))), (6, .inr (.inr (1, 25 + 2 * (0 + r)))), (0, .inr (.inr (1, 0))), (1, .inl ((r : Int), (r : Int))), (2, .inl ((i : Int), (i : Int))), (3, .inl ((t : Int), (t : Int))), (4, .inl ((j : Int), (j : Int))), (5, .inl ((n : Int), (n : Int)))] [.inl ((n : Int), (n : Int)), .inl ((j : Int), (j : Int)), .inr (.inr (1, 26 + 2 * (0 + t))), .inl ((i : Int), (i : Int)), .inr (.inr (1, 26 + 2 * (0 + r)))] w 0 0 = _
                unfold xh_cpy
                dsimp only
                rw [if_pos ⟨rfl, rfl, rfl, rfl, rfl, by omega, by omega, by omega, (Nat.le_of_ble_eq_true rfl), (Nat.le_of_ble_eq_true rfl)⟩, c2, d2]
                show (if i + n ≤ es.length ∧ j + n ≤ ed.length then _ else _) = _
                rw [if_pos ⟨by omega, by omega⟩]
                rfl) ?_
              refine yreach.at (S' := (107, [(7, .inr (.inr (1, 25 + 2 * (0 + t)))), (6, .inr (.inr (1, 25 + 2 * (0 + r)))), (0, .inr (.inr (1, 0))), (1, .inl ((r : Int), (r : Int))), (2, .inl ((i : Int), (i : Int))), (3, .inl ((t : Int), (t : Int))), (4, .inl ((j : Int), (j : Int))), (5, .inl ((n : Int), (n : Int)))], [.inl (1, 1)], (w.set (26 + 2 * (0 + t)) (.inr (0, xcpy es ed i j n))), 0, 0)) (q := _) rfl rfl ?_
              exact yreach.ret (q := (some (.inl (1, 1)), (w.set (26 + 2 * (0 + t)) (.inr (0, xcpy es ed i j n))), 0, 0)) ((xstep_at rfl).trans rfl) rfl
            · rw [if_neg (by omega), if_neg (by omega)]
              obtain ⟨w2, m2, hU2⟩ := zfound (l := l) (D := D) (tA := tA) (ex := ex) (sc := sc) hU (v := 2) (by decide)
              refine ⟨w2, zex (j := 17) rfl (Nat.le_of_ble_eq_true rfl) ?_, hU2⟩
              refine yreach.at (S' := (1, [(0, .inr (.inr (1, 0))), (1, .inl ((r : Int), (r : Int))), (2, .inl (i, i)), (3, .inl ((t : Int), (t : Int))), (4, .inl (j, j)), (5, .inl (n, n))], [.inr (.inr (1, 0))], w, 0, 0)) (q := _) rfl rfl ?_
              refine yreach.at (S' := (2, [(0, .inr (.inr (1, 0))), (1, .inl ((r : Int), (r : Int))), (2, .inl (i, i)), (3, .inl ((t : Int), (t : Int))), (4, .inl (j, j)), (5, .inl (n, n))], [.inl ((r : Int), (r : Int)), .inr (.inr (1, 0))], w, 0, 0)) (q := _) rfl rfl ?_
              refine ycall_at (N := xm9) (ro := some (.inr (.inr (1, 25 + 2 * (0 + r))))) (w' := w) (recv := true) (i := .invokevirtual 78) (a := 9) (na := 2) (z := 0) rfl (fun _ => rfl) rfl (zrow_in hU hr) ⟨Nat.le_of_ble_eq_true rfl, Nat.le_of_ble_eq_true rfl, Nat.le_of_ble_eq_true rfl, Nat.le_of_ble_eq_true rfl, Nat.le_of_ble_eq_true rfl, Nat.le_of_ble_eq_true rfl, (xrecv_at (as := [.inl ((r : Int), (r : Int))]) hw)⟩ ?_
              show yreach (ySt sc xm17) (yJm l D tA ex sc xm17) (_) (5, [(0, .inr (.inr (1, 0))), (1, .inl ((r : Int), (r : Int))), (2, .inl (i, i)), (3, .inl ((t : Int), (t : Int))), (4, .inl (j, j)), (5, .inl (n, n))], [.inr (.inr (1, 25 + 2 * (0 + r)))], w, 0, 0)
              refine yreach.at (S' := (7, [(6, .inr (.inr (1, 25 + 2 * (0 + r)))), (0, .inr (.inr (1, 0))), (1, .inl ((r : Int), (r : Int))), (2, .inl (i, i)), (3, .inl ((t : Int), (t : Int))), (4, .inl (j, j)), (5, .inl (n, n))], [], w, 0, 0)) (q := _) rfl rfl ?_
              refine yreach.at (S' := (8, [(6, .inr (.inr (1, 25 + 2 * (0 + r)))), (0, .inr (.inr (1, 0))), (1, .inl ((r : Int), (r : Int))), (2, .inl (i, i)), (3, .inl ((t : Int), (t : Int))), (4, .inl (j, j)), (5, .inl (n, n))], [.inr (.inr (1, 0))], w, 0, 0)) (q := _) rfl rfl ?_
              refine yreach.at (S' := (9, [(6, .inr (.inr (1, 25 + 2 * (0 + r)))), (0, .inr (.inr (1, 0))), (1, .inl ((r : Int), (r : Int))), (2, .inl (i, i)), (3, .inl ((t : Int), (t : Int))), (4, .inl (j, j)), (5, .inl (n, n))], [.inl ((t : Int), (t : Int)), .inr (.inr (1, 0))], w, 0, 0)) (q := _) rfl rfl ?_
              refine ycall_at (N := xm9) (ro := some (.inr (.inr (1, 25 + 2 * (0 + t))))) (w' := w) (recv := true) (i := .invokevirtual 78) (a := 9) (na := 2) (z := 0) rfl (fun _ => rfl) rfl (zrow_in hU ht) ⟨Nat.le_of_ble_eq_true rfl, Nat.le_of_ble_eq_true rfl, Nat.le_of_ble_eq_true rfl, Nat.le_of_ble_eq_true rfl, Nat.le_of_ble_eq_true rfl, Nat.le_of_ble_eq_true rfl, (xrecv_at (as := [.inl ((t : Int), (t : Int))]) hw)⟩ ?_
              show yreach (ySt sc xm17) (yJm l D tA ex sc xm17) (_) (12, [(6, .inr (.inr (1, 25 + 2 * (0 + r)))), (0, .inr (.inr (1, 0))), (1, .inl ((r : Int), (r : Int))), (2, .inl (i, i)), (3, .inl ((t : Int), (t : Int))), (4, .inl (j, j)), (5, .inl (n, n))], [.inr (.inr (1, 25 + 2 * (0 + t)))], w, 0, 0)
              refine yreach.at (S' := (14, [(7, .inr (.inr (1, 25 + 2 * (0 + t)))), (6, .inr (.inr (1, 25 + 2 * (0 + r)))), (0, .inr (.inr (1, 0))), (1, .inl ((r : Int), (r : Int))), (2, .inl (i, i)), (3, .inl ((t : Int), (t : Int))), (4, .inl (j, j)), (5, .inl (n, n))], [], w, 0, 0)) (q := _) rfl rfl ?_
              refine yreach.at (S' := (16, [(7, .inr (.inr (1, 25 + 2 * (0 + t)))), (6, .inr (.inr (1, 25 + 2 * (0 + r)))), (0, .inr (.inr (1, 0))), (1, .inl ((r : Int), (r : Int))), (2, .inl (i, i)), (3, .inl ((t : Int), (t : Int))), (4, .inl (j, j)), (5, .inl (n, n))], [.inr (.inr (1, 25 + 2 * (0 + r)))], w, 0, 0)) (q := _) rfl rfl ?_
              refine yreach.at (S' := (19, [(7, .inr (.inr (1, 25 + 2 * (0 + t)))), (6, .inr (.inr (1, 25 + 2 * (0 + r)))), (0, .inr (.inr (1, 0))), (1, .inl ((r : Int), (r : Int))), (2, .inl (i, i)), (3, .inl ((t : Int), (t : Int))), (4, .inl (j, j)), (5, .inl (n, n))], [], w, 0, 0)) (q := _) rfl rfl ?_
              refine yreach.at (S' := (21, [(7, .inr (.inr (1, 25 + 2 * (0 + t)))), (6, .inr (.inr (1, 25 + 2 * (0 + r)))), (0, .inr (.inr (1, 0))), (1, .inl ((r : Int), (r : Int))), (2, .inl (i, i)), (3, .inl ((t : Int), (t : Int))), (4, .inl (j, j)), (5, .inl (n, n))], [.inr (.inr (1, 25 + 2 * (0 + t)))], w, 0, 0)) (q := _) rfl rfl ?_
              refine yreach.at (S' := (26, [(7, .inr (.inr (1, 25 + 2 * (0 + t)))), (6, .inr (.inr (1, 25 + 2 * (0 + r)))), (0, .inr (.inr (1, 0))), (1, .inl ((r : Int), (r : Int))), (2, .inl (i, i)), (3, .inl ((t : Int), (t : Int))), (4, .inl (j, j)), (5, .inl (n, n))], [], w, 0, 0)) (q := _) rfl rfl ?_
              refine yreach.at (S' := (28, [(7, .inr (.inr (1, 25 + 2 * (0 + t)))), (6, .inr (.inr (1, 25 + 2 * (0 + r)))), (0, .inr (.inr (1, 0))), (1, .inl ((r : Int), (r : Int))), (2, .inl (i, i)), (3, .inl ((t : Int), (t : Int))), (4, .inl (j, j)), (5, .inl (n, n))], [.inl (n, n)], w, 0, 0)) (q := _) rfl rfl ?_
              refine yreach.at (S' := (37, [(7, .inr (.inr (1, 25 + 2 * (0 + t)))), (6, .inr (.inr (1, 25 + 2 * (0 + r)))), (0, .inr (.inr (1, 0))), (1, .inl ((r : Int), (r : Int))), (2, .inl (i, i)), (3, .inl ((t : Int), (t : Int))), (4, .inl (j, j)), (5, .inl (n, n))], [], w, 0, 0)) (q := _) rfl (sx_if (o := true) (zcmp xge_of (decide_eq_true (by omega)))) ?_
              refine yreach.at (S' := (39, [(7, .inr (.inr (1, 25 + 2 * (0 + t)))), (6, .inr (.inr (1, 25 + 2 * (0 + r)))), (0, .inr (.inr (1, 0))), (1, .inl ((r : Int), (r : Int))), (2, .inl (i, i)), (3, .inl ((t : Int), (t : Int))), (4, .inl (j, j)), (5, .inl (n, n))], [.inr (.inr (1, 25 + 2 * (0 + r)))], w, 0, 0)) (q := _) rfl rfl ?_
              refine ycall_at (N := xm13) (ro := some (.inl (0, 0))) (w' := w) (recv := true) (i := .invokevirtual 90) (a := 13) (na := 1) (z := 0) rfl (fun _ => rfl) rfl (zmis_n c1 hz.1) ⟨Nat.le_of_ble_eq_true rfl, Nat.le_of_ble_eq_true rfl, Nat.le_of_ble_eq_true rfl, Nat.le_of_ble_eq_true rfl, Nat.le_of_ble_eq_true rfl, Nat.le_of_ble_eq_true rfl, (xrecv_at (as := []) c1)⟩ ?_
              show yreach (ySt sc xm17) (yJm l D tA ex sc xm17) (_) (42, [(7, .inr (.inr (1, 25 + 2 * (0 + t)))), (6, .inr (.inr (1, 25 + 2 * (0 + r)))), (0, .inr (.inr (1, 0))), (1, .inl ((r : Int), (r : Int))), (2, .inl (i, i)), (3, .inl ((t : Int), (t : Int))), (4, .inl (j, j)), (5, .inl (n, n))], [.inl (0, 0)], w, 0, 0)
              refine yreach.at (S' := (45, [(7, .inr (.inr (1, 25 + 2 * (0 + t)))), (6, .inr (.inr (1, 25 + 2 * (0 + r)))), (0, .inr (.inr (1, 0))), (1, .inl ((r : Int), (r : Int))), (2, .inl (i, i)), (3, .inl ((t : Int), (t : Int))), (4, .inl (j, j)), (5, .inl (n, n))], [], w, 0, 0)) (q := _) rfl (sx_if (o := false) (zcmp xcne_of (decide_eq_false (by omega)))) ?_
              refine yreach.at (S' := (47, [(7, .inr (.inr (1, 25 + 2 * (0 + t)))), (6, .inr (.inr (1, 25 + 2 * (0 + r)))), (0, .inr (.inr (1, 0))), (1, .inl ((r : Int), (r : Int))), (2, .inl (i, i)), (3, .inl ((t : Int), (t : Int))), (4, .inl (j, j)), (5, .inl (n, n))], [.inr (.inr (1, 25 + 2 * (0 + t)))], w, 0, 0)) (q := _) rfl rfl ?_
              refine ycall_at (N := xm13) (ro := some (.inl (0, 0))) (w' := w) (recv := true) (i := .invokevirtual 90) (a := 13) (na := 1) (z := 0) rfl (fun _ => rfl) rfl (zmis_n d1 hy.1) ⟨Nat.le_of_ble_eq_true rfl, Nat.le_of_ble_eq_true rfl, Nat.le_of_ble_eq_true rfl, Nat.le_of_ble_eq_true rfl, Nat.le_of_ble_eq_true rfl, Nat.le_of_ble_eq_true rfl, (xrecv_at (as := []) d1)⟩ ?_
              show yreach (ySt sc xm17) (yJm l D tA ex sc xm17) (_) (50, [(7, .inr (.inr (1, 25 + 2 * (0 + t)))), (6, .inr (.inr (1, 25 + 2 * (0 + r)))), (0, .inr (.inr (1, 0))), (1, .inl ((r : Int), (r : Int))), (2, .inl (i, i)), (3, .inl ((t : Int), (t : Int))), (4, .inl (j, j)), (5, .inl (n, n))], [.inl (0, 0)], w, 0, 0)
              refine yreach.at (S' := (59, [(7, .inr (.inr (1, 25 + 2 * (0 + t)))), (6, .inr (.inr (1, 25 + 2 * (0 + r)))), (0, .inr (.inr (1, 0))), (1, .inl ((r : Int), (r : Int))), (2, .inl (i, i)), (3, .inl ((t : Int), (t : Int))), (4, .inl (j, j)), (5, .inl (n, n))], [], w, 0, 0)) (q := _) rfl (sx_if (o := true) (zcmp xceq_of (decide_eq_true (by omega)))) ?_
              refine yreach.at (S' := (61, [(7, .inr (.inr (1, 25 + 2 * (0 + t)))), (6, .inr (.inr (1, 25 + 2 * (0 + r)))), (0, .inr (.inr (1, 0))), (1, .inl ((r : Int), (r : Int))), (2, .inl (i, i)), (3, .inl ((t : Int), (t : Int))), (4, .inl (j, j)), (5, .inl (n, n))], [.inr (.inr (1, 25 + 2 * (0 + r)))], w, 0, 0)) (q := _) rfl rfl ?_
              refine yreach.at (S' := (62, [(7, .inr (.inr (1, 25 + 2 * (0 + t)))), (6, .inr (.inr (1, 25 + 2 * (0 + r)))), (0, .inr (.inr (1, 0))), (1, .inl ((r : Int), (r : Int))), (2, .inl (i, i)), (3, .inl ((t : Int), (t : Int))), (4, .inl (j, j)), (5, .inl (n, n))], [.inl (i, i), .inr (.inr (1, 25 + 2 * (0 + r)))], w, 0, 0)) (q := _) rfl rfl ?_
              refine yreach.at (S' := (64, [(7, .inr (.inr (1, 25 + 2 * (0 + t)))), (6, .inr (.inr (1, 25 + 2 * (0 + r)))), (0, .inr (.inr (1, 0))), (1, .inl ((r : Int), (r : Int))), (2, .inl (i, i)), (3, .inl ((t : Int), (t : Int))), (4, .inl (j, j)), (5, .inl (n, n))], [.inl (n, n), .inl (i, i), .inr (.inr (1, 25 + 2 * (0 + r)))], w, 0, 0)) (q := _) rfl rfl ?_
              refine ycall_at (N := xm14) (ro := some (.inl (1, 1))) (w' := w) (recv := true) (i := .invokevirtual 94) (a := 14) (na := 3) (z := 0) rfl (fun _ => rfl) rfl (zhol_y c1 (by have h1 := c4.1; omega) hz.2) ⟨Nat.le_of_ble_eq_true rfl, Nat.le_of_ble_eq_true rfl, Nat.le_of_ble_eq_true rfl, Nat.le_of_ble_eq_true rfl, Nat.le_of_ble_eq_true rfl, Nat.le_of_ble_eq_true rfl, (xrecv_at (as := [.inl (i, i), .inl (n, n)]) c1)⟩ ?_
              show yreach (ySt sc xm17) (yJm l D tA ex sc xm17) (_) (67, [(7, .inr (.inr (1, 25 + 2 * (0 + t)))), (6, .inr (.inr (1, 25 + 2 * (0 + r)))), (0, .inr (.inr (1, 0))), (1, .inl ((r : Int), (r : Int))), (2, .inl (i, i)), (3, .inl ((t : Int), (t : Int))), (4, .inl (j, j)), (5, .inl (n, n))], [.inl (1, 1)], w, 0, 0)
              refine yreach.at (S' := (70, [(7, .inr (.inr (1, 25 + 2 * (0 + t)))), (6, .inr (.inr (1, 25 + 2 * (0 + r)))), (0, .inr (.inr (1, 0))), (1, .inl ((r : Int), (r : Int))), (2, .inl (i, i)), (3, .inl ((t : Int), (t : Int))), (4, .inl (j, j)), (5, .inl (n, n))], [], w, 0, 0)) (q := _) rfl (sx_if (o := false) (zcmp xceq_of (decide_eq_false (by omega)))) ?_
              refine yreach.at (S' := (72, [(7, .inr (.inr (1, 25 + 2 * (0 + t)))), (6, .inr (.inr (1, 25 + 2 * (0 + r)))), (0, .inr (.inr (1, 0))), (1, .inl ((r : Int), (r : Int))), (2, .inl (i, i)), (3, .inl ((t : Int), (t : Int))), (4, .inl (j, j)), (5, .inl (n, n))], [.inr (.inr (1, 25 + 2 * (0 + t)))], w, 0, 0)) (q := _) rfl rfl ?_
              refine yreach.at (S' := (74, [(7, .inr (.inr (1, 25 + 2 * (0 + t)))), (6, .inr (.inr (1, 25 + 2 * (0 + r)))), (0, .inr (.inr (1, 0))), (1, .inl ((r : Int), (r : Int))), (2, .inl (i, i)), (3, .inl ((t : Int), (t : Int))), (4, .inl (j, j)), (5, .inl (n, n))], [.inl (j, j), .inr (.inr (1, 25 + 2 * (0 + t)))], w, 0, 0)) (q := _) rfl rfl ?_
              refine yreach.at (S' := (76, [(7, .inr (.inr (1, 25 + 2 * (0 + t)))), (6, .inr (.inr (1, 25 + 2 * (0 + r)))), (0, .inr (.inr (1, 0))), (1, .inl ((r : Int), (r : Int))), (2, .inl (i, i)), (3, .inl ((t : Int), (t : Int))), (4, .inl (j, j)), (5, .inl (n, n))], [.inl (n, n), .inl (j, j), .inr (.inr (1, 25 + 2 * (0 + t)))], w, 0, 0)) (q := _) rfl rfl ?_
              refine ycall_at (N := xm14) (ro := some (.inl (0, 0))) (w' := w) (recv := true) (i := .invokevirtual 94) (a := 14) (na := 3) (z := 0) rfl (fun _ => rfl) rfl (zhol_n d1 (by have h1 := d4.1; omega) hy.2) ⟨Nat.le_of_ble_eq_true rfl, Nat.le_of_ble_eq_true rfl, Nat.le_of_ble_eq_true rfl, Nat.le_of_ble_eq_true rfl, Nat.le_of_ble_eq_true rfl, Nat.le_of_ble_eq_true rfl, (xrecv_at (as := [.inl (j, j), .inl (n, n)]) d1)⟩ ?_
              show yreach (ySt sc xm17) (yJm l D tA ex sc xm17) (_) (79, [(7, .inr (.inr (1, 25 + 2 * (0 + t)))), (6, .inr (.inr (1, 25 + 2 * (0 + r)))), (0, .inr (.inr (1, 0))), (1, .inl ((r : Int), (r : Int))), (2, .inl (i, i)), (3, .inl ((t : Int), (t : Int))), (4, .inl (j, j)), (5, .inl (n, n))], [.inl (0, 0)], w, 0, 0)
              refine yreach.at (S' := (82, [(7, .inr (.inr (1, 25 + 2 * (0 + t)))), (6, .inr (.inr (1, 25 + 2 * (0 + r)))), (0, .inr (.inr (1, 0))), (1, .inl ((r : Int), (r : Int))), (2, .inl (i, i)), (3, .inl ((t : Int), (t : Int))), (4, .inl (j, j)), (5, .inl (n, n))], [], w, 0, 0)) (q := _) rfl (sx_if (o := false) (zcmp xcne_of (decide_eq_false (by omega)))) ?_
              refine yreach.at (S' := (83, [(7, .inr (.inr (1, 25 + 2 * (0 + t)))), (6, .inr (.inr (1, 25 + 2 * (0 + r)))), (0, .inr (.inr (1, 0))), (1, .inl ((r : Int), (r : Int))), (2, .inl (i, i)), (3, .inl ((t : Int), (t : Int))), (4, .inl (j, j)), (5, .inl (n, n))], [.inr (.inr (1, 0))], w, 0, 0)) (q := _) rfl rfl ?_
              refine yreach.at (S' := (84, [(7, .inr (.inr (1, 25 + 2 * (0 + t)))), (6, .inr (.inr (1, 25 + 2 * (0 + r)))), (0, .inr (.inr (1, 0))), (1, .inl ((r : Int), (r : Int))), (2, .inl (i, i)), (3, .inl ((t : Int), (t : Int))), (4, .inl (j, j)), (5, .inl (n, n))], [.inl (2, 2), .inr (.inr (1, 0))], w, 0, 0)) (q := _) rfl rfl ?_
              refine ycall_at (N := xm10) (ro := some (.inl (-3, -3))) (w' := w2) (recv := true) (i := .invokevirtual 82) (a := 10) (na := 2) (z := 0) rfl (fun _ => rfl) rfl m2 ⟨Nat.le_of_ble_eq_true rfl, Nat.le_of_ble_eq_true rfl, Nat.le_of_ble_eq_true rfl, Nat.le_of_ble_eq_true rfl, Nat.le_of_ble_eq_true rfl, Nat.le_of_ble_eq_true rfl, (xrecv_at (as := [.inl (2, 2)]) hw)⟩ ?_
              show yreach (ySt sc xm17) (yJm l D tA ex sc xm17) (_) (87, [(7, .inr (.inr (1, 25 + 2 * (0 + t)))), (6, .inr (.inr (1, 25 + 2 * (0 + r)))), (0, .inr (.inr (1, 0))), (1, .inl ((r : Int), (r : Int))), (2, .inl (i, i)), (3, .inl ((t : Int), (t : Int))), (4, .inl (j, j)), (5, .inl (n, n))], [.inl (-3, -3)], w2, 0, 0)
              exact yreach.ret (q := (some (.inl (-3, -3)), w2, 0, 0)) ((xstep_at rfl).trans rfl) rfl
          · rw [if_neg (by omega), if_neg (by omega)]
            obtain ⟨w2, m2, hU2⟩ := zfound (l := l) (D := D) (tA := tA) (ex := ex) (sc := sc) hU (v := 2) (by decide)
            refine ⟨w2, zex (j := 17) rfl (Nat.le_of_ble_eq_true rfl) ?_, hU2⟩
            refine yreach.at (S' := (1, [(0, .inr (.inr (1, 0))), (1, .inl ((r : Int), (r : Int))), (2, .inl (i, i)), (3, .inl ((t : Int), (t : Int))), (4, .inl (j, j)), (5, .inl (n, n))], [.inr (.inr (1, 0))], w, 0, 0)) (q := _) rfl rfl ?_
            refine yreach.at (S' := (2, [(0, .inr (.inr (1, 0))), (1, .inl ((r : Int), (r : Int))), (2, .inl (i, i)), (3, .inl ((t : Int), (t : Int))), (4, .inl (j, j)), (5, .inl (n, n))], [.inl ((r : Int), (r : Int)), .inr (.inr (1, 0))], w, 0, 0)) (q := _) rfl rfl ?_
            refine ycall_at (N := xm9) (ro := some (.inr (.inr (1, 25 + 2 * (0 + r))))) (w' := w) (recv := true) (i := .invokevirtual 78) (a := 9) (na := 2) (z := 0) rfl (fun _ => rfl) rfl (zrow_in hU hr) ⟨Nat.le_of_ble_eq_true rfl, Nat.le_of_ble_eq_true rfl, Nat.le_of_ble_eq_true rfl, Nat.le_of_ble_eq_true rfl, Nat.le_of_ble_eq_true rfl, Nat.le_of_ble_eq_true rfl, (xrecv_at (as := [.inl ((r : Int), (r : Int))]) hw)⟩ ?_
            show yreach (ySt sc xm17) (yJm l D tA ex sc xm17) (_) (5, [(0, .inr (.inr (1, 0))), (1, .inl ((r : Int), (r : Int))), (2, .inl (i, i)), (3, .inl ((t : Int), (t : Int))), (4, .inl (j, j)), (5, .inl (n, n))], [.inr (.inr (1, 25 + 2 * (0 + r)))], w, 0, 0)
            refine yreach.at (S' := (7, [(6, .inr (.inr (1, 25 + 2 * (0 + r)))), (0, .inr (.inr (1, 0))), (1, .inl ((r : Int), (r : Int))), (2, .inl (i, i)), (3, .inl ((t : Int), (t : Int))), (4, .inl (j, j)), (5, .inl (n, n))], [], w, 0, 0)) (q := _) rfl rfl ?_
            refine yreach.at (S' := (8, [(6, .inr (.inr (1, 25 + 2 * (0 + r)))), (0, .inr (.inr (1, 0))), (1, .inl ((r : Int), (r : Int))), (2, .inl (i, i)), (3, .inl ((t : Int), (t : Int))), (4, .inl (j, j)), (5, .inl (n, n))], [.inr (.inr (1, 0))], w, 0, 0)) (q := _) rfl rfl ?_
            refine yreach.at (S' := (9, [(6, .inr (.inr (1, 25 + 2 * (0 + r)))), (0, .inr (.inr (1, 0))), (1, .inl ((r : Int), (r : Int))), (2, .inl (i, i)), (3, .inl ((t : Int), (t : Int))), (4, .inl (j, j)), (5, .inl (n, n))], [.inl ((t : Int), (t : Int)), .inr (.inr (1, 0))], w, 0, 0)) (q := _) rfl rfl ?_
            refine ycall_at (N := xm9) (ro := some (.inr (.inr (1, 25 + 2 * (0 + t))))) (w' := w) (recv := true) (i := .invokevirtual 78) (a := 9) (na := 2) (z := 0) rfl (fun _ => rfl) rfl (zrow_in hU ht) ⟨Nat.le_of_ble_eq_true rfl, Nat.le_of_ble_eq_true rfl, Nat.le_of_ble_eq_true rfl, Nat.le_of_ble_eq_true rfl, Nat.le_of_ble_eq_true rfl, Nat.le_of_ble_eq_true rfl, (xrecv_at (as := [.inl ((t : Int), (t : Int))]) hw)⟩ ?_
            show yreach (ySt sc xm17) (yJm l D tA ex sc xm17) (_) (12, [(6, .inr (.inr (1, 25 + 2 * (0 + r)))), (0, .inr (.inr (1, 0))), (1, .inl ((r : Int), (r : Int))), (2, .inl (i, i)), (3, .inl ((t : Int), (t : Int))), (4, .inl (j, j)), (5, .inl (n, n))], [.inr (.inr (1, 25 + 2 * (0 + t)))], w, 0, 0)
            refine yreach.at (S' := (14, [(7, .inr (.inr (1, 25 + 2 * (0 + t)))), (6, .inr (.inr (1, 25 + 2 * (0 + r)))), (0, .inr (.inr (1, 0))), (1, .inl ((r : Int), (r : Int))), (2, .inl (i, i)), (3, .inl ((t : Int), (t : Int))), (4, .inl (j, j)), (5, .inl (n, n))], [], w, 0, 0)) (q := _) rfl rfl ?_
            refine yreach.at (S' := (16, [(7, .inr (.inr (1, 25 + 2 * (0 + t)))), (6, .inr (.inr (1, 25 + 2 * (0 + r)))), (0, .inr (.inr (1, 0))), (1, .inl ((r : Int), (r : Int))), (2, .inl (i, i)), (3, .inl ((t : Int), (t : Int))), (4, .inl (j, j)), (5, .inl (n, n))], [.inr (.inr (1, 25 + 2 * (0 + r)))], w, 0, 0)) (q := _) rfl rfl ?_
            refine yreach.at (S' := (19, [(7, .inr (.inr (1, 25 + 2 * (0 + t)))), (6, .inr (.inr (1, 25 + 2 * (0 + r)))), (0, .inr (.inr (1, 0))), (1, .inl ((r : Int), (r : Int))), (2, .inl (i, i)), (3, .inl ((t : Int), (t : Int))), (4, .inl (j, j)), (5, .inl (n, n))], [], w, 0, 0)) (q := _) rfl rfl ?_
            refine yreach.at (S' := (21, [(7, .inr (.inr (1, 25 + 2 * (0 + t)))), (6, .inr (.inr (1, 25 + 2 * (0 + r)))), (0, .inr (.inr (1, 0))), (1, .inl ((r : Int), (r : Int))), (2, .inl (i, i)), (3, .inl ((t : Int), (t : Int))), (4, .inl (j, j)), (5, .inl (n, n))], [.inr (.inr (1, 25 + 2 * (0 + t)))], w, 0, 0)) (q := _) rfl rfl ?_
            refine yreach.at (S' := (26, [(7, .inr (.inr (1, 25 + 2 * (0 + t)))), (6, .inr (.inr (1, 25 + 2 * (0 + r)))), (0, .inr (.inr (1, 0))), (1, .inl ((r : Int), (r : Int))), (2, .inl (i, i)), (3, .inl ((t : Int), (t : Int))), (4, .inl (j, j)), (5, .inl (n, n))], [], w, 0, 0)) (q := _) rfl rfl ?_
            refine yreach.at (S' := (28, [(7, .inr (.inr (1, 25 + 2 * (0 + t)))), (6, .inr (.inr (1, 25 + 2 * (0 + r)))), (0, .inr (.inr (1, 0))), (1, .inl ((r : Int), (r : Int))), (2, .inl (i, i)), (3, .inl ((t : Int), (t : Int))), (4, .inl (j, j)), (5, .inl (n, n))], [.inl (n, n)], w, 0, 0)) (q := _) rfl rfl ?_
            refine yreach.at (S' := (37, [(7, .inr (.inr (1, 25 + 2 * (0 + t)))), (6, .inr (.inr (1, 25 + 2 * (0 + r)))), (0, .inr (.inr (1, 0))), (1, .inl ((r : Int), (r : Int))), (2, .inl (i, i)), (3, .inl ((t : Int), (t : Int))), (4, .inl (j, j)), (5, .inl (n, n))], [], w, 0, 0)) (q := _) rfl (sx_if (o := true) (zcmp xge_of (decide_eq_true (by omega)))) ?_
            refine yreach.at (S' := (39, [(7, .inr (.inr (1, 25 + 2 * (0 + t)))), (6, .inr (.inr (1, 25 + 2 * (0 + r)))), (0, .inr (.inr (1, 0))), (1, .inl ((r : Int), (r : Int))), (2, .inl (i, i)), (3, .inl ((t : Int), (t : Int))), (4, .inl (j, j)), (5, .inl (n, n))], [.inr (.inr (1, 25 + 2 * (0 + r)))], w, 0, 0)) (q := _) rfl rfl ?_
            refine ycall_at (N := xm13) (ro := some (.inl (0, 0))) (w' := w) (recv := true) (i := .invokevirtual 90) (a := 13) (na := 1) (z := 0) rfl (fun _ => rfl) rfl (zmis_n c1 hz.1) ⟨Nat.le_of_ble_eq_true rfl, Nat.le_of_ble_eq_true rfl, Nat.le_of_ble_eq_true rfl, Nat.le_of_ble_eq_true rfl, Nat.le_of_ble_eq_true rfl, Nat.le_of_ble_eq_true rfl, (xrecv_at (as := []) c1)⟩ ?_
            show yreach (ySt sc xm17) (yJm l D tA ex sc xm17) (_) (42, [(7, .inr (.inr (1, 25 + 2 * (0 + t)))), (6, .inr (.inr (1, 25 + 2 * (0 + r)))), (0, .inr (.inr (1, 0))), (1, .inl ((r : Int), (r : Int))), (2, .inl (i, i)), (3, .inl ((t : Int), (t : Int))), (4, .inl (j, j)), (5, .inl (n, n))], [.inl (0, 0)], w, 0, 0)
            refine yreach.at (S' := (45, [(7, .inr (.inr (1, 25 + 2 * (0 + t)))), (6, .inr (.inr (1, 25 + 2 * (0 + r)))), (0, .inr (.inr (1, 0))), (1, .inl ((r : Int), (r : Int))), (2, .inl (i, i)), (3, .inl ((t : Int), (t : Int))), (4, .inl (j, j)), (5, .inl (n, n))], [], w, 0, 0)) (q := _) rfl (sx_if (o := false) (zcmp xcne_of (decide_eq_false (by omega)))) ?_
            refine yreach.at (S' := (47, [(7, .inr (.inr (1, 25 + 2 * (0 + t)))), (6, .inr (.inr (1, 25 + 2 * (0 + r)))), (0, .inr (.inr (1, 0))), (1, .inl ((r : Int), (r : Int))), (2, .inl (i, i)), (3, .inl ((t : Int), (t : Int))), (4, .inl (j, j)), (5, .inl (n, n))], [.inr (.inr (1, 25 + 2 * (0 + t)))], w, 0, 0)) (q := _) rfl rfl ?_
            refine ycall_at (N := xm13) (ro := some (.inl (0, 0))) (w' := w) (recv := true) (i := .invokevirtual 90) (a := 13) (na := 1) (z := 0) rfl (fun _ => rfl) rfl (zmis_n d1 hy.1) ⟨Nat.le_of_ble_eq_true rfl, Nat.le_of_ble_eq_true rfl, Nat.le_of_ble_eq_true rfl, Nat.le_of_ble_eq_true rfl, Nat.le_of_ble_eq_true rfl, Nat.le_of_ble_eq_true rfl, (xrecv_at (as := []) d1)⟩ ?_
            show yreach (ySt sc xm17) (yJm l D tA ex sc xm17) (_) (50, [(7, .inr (.inr (1, 25 + 2 * (0 + t)))), (6, .inr (.inr (1, 25 + 2 * (0 + r)))), (0, .inr (.inr (1, 0))), (1, .inl ((r : Int), (r : Int))), (2, .inl (i, i)), (3, .inl ((t : Int), (t : Int))), (4, .inl (j, j)), (5, .inl (n, n))], [.inl (0, 0)], w, 0, 0)
            refine yreach.at (S' := (59, [(7, .inr (.inr (1, 25 + 2 * (0 + t)))), (6, .inr (.inr (1, 25 + 2 * (0 + r)))), (0, .inr (.inr (1, 0))), (1, .inl ((r : Int), (r : Int))), (2, .inl (i, i)), (3, .inl ((t : Int), (t : Int))), (4, .inl (j, j)), (5, .inl (n, n))], [], w, 0, 0)) (q := _) rfl (sx_if (o := true) (zcmp xceq_of (decide_eq_true (by omega)))) ?_
            refine yreach.at (S' := (61, [(7, .inr (.inr (1, 25 + 2 * (0 + t)))), (6, .inr (.inr (1, 25 + 2 * (0 + r)))), (0, .inr (.inr (1, 0))), (1, .inl ((r : Int), (r : Int))), (2, .inl (i, i)), (3, .inl ((t : Int), (t : Int))), (4, .inl (j, j)), (5, .inl (n, n))], [.inr (.inr (1, 25 + 2 * (0 + r)))], w, 0, 0)) (q := _) rfl rfl ?_
            refine yreach.at (S' := (62, [(7, .inr (.inr (1, 25 + 2 * (0 + t)))), (6, .inr (.inr (1, 25 + 2 * (0 + r)))), (0, .inr (.inr (1, 0))), (1, .inl ((r : Int), (r : Int))), (2, .inl (i, i)), (3, .inl ((t : Int), (t : Int))), (4, .inl (j, j)), (5, .inl (n, n))], [.inl (i, i), .inr (.inr (1, 25 + 2 * (0 + r)))], w, 0, 0)) (q := _) rfl rfl ?_
            refine yreach.at (S' := (64, [(7, .inr (.inr (1, 25 + 2 * (0 + t)))), (6, .inr (.inr (1, 25 + 2 * (0 + r)))), (0, .inr (.inr (1, 0))), (1, .inl ((r : Int), (r : Int))), (2, .inl (i, i)), (3, .inl ((t : Int), (t : Int))), (4, .inl (j, j)), (5, .inl (n, n))], [.inl (n, n), .inl (i, i), .inr (.inr (1, 25 + 2 * (0 + r)))], w, 0, 0)) (q := _) rfl rfl ?_
            refine ycall_at (N := xm14) (ro := some (.inl (0, 0))) (w' := w) (recv := true) (i := .invokevirtual 94) (a := 14) (na := 3) (z := 0) rfl (fun _ => rfl) rfl (zhol_n c1 (by have h1 := c4.1; omega) hz.2) ⟨Nat.le_of_ble_eq_true rfl, Nat.le_of_ble_eq_true rfl, Nat.le_of_ble_eq_true rfl, Nat.le_of_ble_eq_true rfl, Nat.le_of_ble_eq_true rfl, Nat.le_of_ble_eq_true rfl, (xrecv_at (as := [.inl (i, i), .inl (n, n)]) c1)⟩ ?_
            show yreach (ySt sc xm17) (yJm l D tA ex sc xm17) (_) (67, [(7, .inr (.inr (1, 25 + 2 * (0 + t)))), (6, .inr (.inr (1, 25 + 2 * (0 + r)))), (0, .inr (.inr (1, 0))), (1, .inl ((r : Int), (r : Int))), (2, .inl (i, i)), (3, .inl ((t : Int), (t : Int))), (4, .inl (j, j)), (5, .inl (n, n))], [.inl (0, 0)], w, 0, 0)
            refine yreach.at (S' := (82, [(7, .inr (.inr (1, 25 + 2 * (0 + t)))), (6, .inr (.inr (1, 25 + 2 * (0 + r)))), (0, .inr (.inr (1, 0))), (1, .inl ((r : Int), (r : Int))), (2, .inl (i, i)), (3, .inl ((t : Int), (t : Int))), (4, .inl (j, j)), (5, .inl (n, n))], [], w, 0, 0)) (q := _) rfl (sx_if (o := true) (zcmp xceq_of (decide_eq_true (by omega)))) ?_
            refine yreach.at (S' := (83, [(7, .inr (.inr (1, 25 + 2 * (0 + t)))), (6, .inr (.inr (1, 25 + 2 * (0 + r)))), (0, .inr (.inr (1, 0))), (1, .inl ((r : Int), (r : Int))), (2, .inl (i, i)), (3, .inl ((t : Int), (t : Int))), (4, .inl (j, j)), (5, .inl (n, n))], [.inr (.inr (1, 0))], w, 0, 0)) (q := _) rfl rfl ?_
            refine yreach.at (S' := (84, [(7, .inr (.inr (1, 25 + 2 * (0 + t)))), (6, .inr (.inr (1, 25 + 2 * (0 + r)))), (0, .inr (.inr (1, 0))), (1, .inl ((r : Int), (r : Int))), (2, .inl (i, i)), (3, .inl ((t : Int), (t : Int))), (4, .inl (j, j)), (5, .inl (n, n))], [.inl (2, 2), .inr (.inr (1, 0))], w, 0, 0)) (q := _) rfl rfl ?_
            refine ycall_at (N := xm10) (ro := some (.inl (-3, -3))) (w' := w2) (recv := true) (i := .invokevirtual 82) (a := 10) (na := 2) (z := 0) rfl (fun _ => rfl) rfl m2 ⟨Nat.le_of_ble_eq_true rfl, Nat.le_of_ble_eq_true rfl, Nat.le_of_ble_eq_true rfl, Nat.le_of_ble_eq_true rfl, Nat.le_of_ble_eq_true rfl, Nat.le_of_ble_eq_true rfl, (xrecv_at (as := [.inl (2, 2)]) hw)⟩ ?_
            show yreach (ySt sc xm17) (yJm l D tA ex sc xm17) (_) (87, [(7, .inr (.inr (1, 25 + 2 * (0 + t)))), (6, .inr (.inr (1, 25 + 2 * (0 + r)))), (0, .inr (.inr (1, 0))), (1, .inl ((r : Int), (r : Int))), (2, .inl (i, i)), (3, .inl ((t : Int), (t : Int))), (4, .inl (j, j)), (5, .inl (n, n))], [.inl (-3, -3)], w2, 0, 0)
            exact yreach.ret (q := (some (.inl (-3, -3)), w2, 0, 0)) ((xstep_at rfl).trans rfl) rfl
    · have n1 : (r : Int) < 0 ∨ 6 ≤ (r : Int) ∨ b < 0 ∨ 6 ≤ b := by omega
      rw [show zCpA S (r : Int) i b j n = -1 from if_pos n1, show zCpS S (r : Int) i b j n = S from if_pos n1]
      refine ⟨w, zex (j := 17) rfl (Nat.le_of_ble_eq_true rfl) ?_, hU⟩
      refine yreach.at (S' := (1, [(0, .inr (.inr (1, 0))), (1, .inl ((r : Int), (r : Int))), (2, .inl (i, i)), (3, .inl (b, b)), (4, .inl (j, j)), (5, .inl (n, n))], [.inr (.inr (1, 0))], w, 0, 0)) (q := _) rfl rfl ?_
      refine yreach.at (S' := (2, [(0, .inr (.inr (1, 0))), (1, .inl ((r : Int), (r : Int))), (2, .inl (i, i)), (3, .inl (b, b)), (4, .inl (j, j)), (5, .inl (n, n))], [.inl ((r : Int), (r : Int)), .inr (.inr (1, 0))], w, 0, 0)) (q := _) rfl rfl ?_
      refine ycall_at (N := xm9) (ro := some (.inr (.inr (1, 25 + 2 * (0 + r))))) (w' := w) (recv := true) (i := .invokevirtual 78) (a := 9) (na := 2) (z := 0) rfl (fun _ => rfl) rfl (zrow_in hU hr) ⟨Nat.le_of_ble_eq_true rfl, Nat.le_of_ble_eq_true rfl, Nat.le_of_ble_eq_true rfl, Nat.le_of_ble_eq_true rfl, Nat.le_of_ble_eq_true rfl, Nat.le_of_ble_eq_true rfl, (xrecv_at (as := [.inl ((r : Int), (r : Int))]) hw)⟩ ?_
      show yreach (ySt sc xm17) (yJm l D tA ex sc xm17) (_) (5, [(0, .inr (.inr (1, 0))), (1, .inl ((r : Int), (r : Int))), (2, .inl (i, i)), (3, .inl (b, b)), (4, .inl (j, j)), (5, .inl (n, n))], [.inr (.inr (1, 25 + 2 * (0 + r)))], w, 0, 0)
      refine yreach.at (S' := (7, [(6, .inr (.inr (1, 25 + 2 * (0 + r)))), (0, .inr (.inr (1, 0))), (1, .inl ((r : Int), (r : Int))), (2, .inl (i, i)), (3, .inl (b, b)), (4, .inl (j, j)), (5, .inl (n, n))], [], w, 0, 0)) (q := _) rfl rfl ?_
      refine yreach.at (S' := (8, [(6, .inr (.inr (1, 25 + 2 * (0 + r)))), (0, .inr (.inr (1, 0))), (1, .inl ((r : Int), (r : Int))), (2, .inl (i, i)), (3, .inl (b, b)), (4, .inl (j, j)), (5, .inl (n, n))], [.inr (.inr (1, 0))], w, 0, 0)) (q := _) rfl rfl ?_
      refine yreach.at (S' := (9, [(6, .inr (.inr (1, 25 + 2 * (0 + r)))), (0, .inr (.inr (1, 0))), (1, .inl ((r : Int), (r : Int))), (2, .inl (i, i)), (3, .inl (b, b)), (4, .inl (j, j)), (5, .inl (n, n))], [.inl (b, b), .inr (.inr (1, 0))], w, 0, 0)) (q := _) rfl rfl ?_
      refine ycall_at (N := xm9) (ro := some (.inr (.inr (0, 0)))) (w' := w) (recv := true) (i := .invokevirtual 78) (a := 9) (na := 2) (z := 0) rfl (fun _ => rfl) rfl (zrow_no hU hb) ⟨Nat.le_of_ble_eq_true rfl, Nat.le_of_ble_eq_true rfl, Nat.le_of_ble_eq_true rfl, Nat.le_of_ble_eq_true rfl, Nat.le_of_ble_eq_true rfl, Nat.le_of_ble_eq_true rfl, (xrecv_at (as := [.inl (b, b)]) hw)⟩ ?_
      show yreach (ySt sc xm17) (yJm l D tA ex sc xm17) (_) (12, [(6, .inr (.inr (1, 25 + 2 * (0 + r)))), (0, .inr (.inr (1, 0))), (1, .inl ((r : Int), (r : Int))), (2, .inl (i, i)), (3, .inl (b, b)), (4, .inl (j, j)), (5, .inl (n, n))], [.inr (.inr (0, 0))], w, 0, 0)
      refine yreach.at (S' := (14, [(7, .inr (.inr (0, 0))), (6, .inr (.inr (1, 25 + 2 * (0 + r)))), (0, .inr (.inr (1, 0))), (1, .inl ((r : Int), (r : Int))), (2, .inl (i, i)), (3, .inl (b, b)), (4, .inl (j, j)), (5, .inl (n, n))], [], w, 0, 0)) (q := _) rfl rfl ?_
      refine yreach.at (S' := (16, [(7, .inr (.inr (0, 0))), (6, .inr (.inr (1, 25 + 2 * (0 + r)))), (0, .inr (.inr (1, 0))), (1, .inl ((r : Int), (r : Int))), (2, .inl (i, i)), (3, .inl (b, b)), (4, .inl (j, j)), (5, .inl (n, n))], [.inr (.inr (1, 25 + 2 * (0 + r)))], w, 0, 0)) (q := _) rfl rfl ?_
      refine yreach.at (S' := (19, [(7, .inr (.inr (0, 0))), (6, .inr (.inr (1, 25 + 2 * (0 + r)))), (0, .inr (.inr (1, 0))), (1, .inl ((r : Int), (r : Int))), (2, .inl (i, i)), (3, .inl (b, b)), (4, .inl (j, j)), (5, .inl (n, n))], [], w, 0, 0)) (q := _) rfl rfl ?_
      refine yreach.at (S' := (21, [(7, .inr (.inr (0, 0))), (6, .inr (.inr (1, 25 + 2 * (0 + r)))), (0, .inr (.inr (1, 0))), (1, .inl ((r : Int), (r : Int))), (2, .inl (i, i)), (3, .inl (b, b)), (4, .inl (j, j)), (5, .inl (n, n))], [.inr (.inr (0, 0))], w, 0, 0)) (q := _) rfl rfl ?_
      refine yreach.at (S' := (24, [(7, .inr (.inr (0, 0))), (6, .inr (.inr (1, 25 + 2 * (0 + r)))), (0, .inr (.inr (1, 0))), (1, .inl ((r : Int), (r : Int))), (2, .inl (i, i)), (3, .inl (b, b)), (4, .inl (j, j)), (5, .inl (n, n))], [], w, 0, 0)) (q := _) rfl rfl ?_
      refine yreach.at (S' := (25, [(7, .inr (.inr (0, 0))), (6, .inr (.inr (1, 25 + 2 * (0 + r)))), (0, .inr (.inr (1, 0))), (1, .inl ((r : Int), (r : Int))), (2, .inl (i, i)), (3, .inl (b, b)), (4, .inl (j, j)), (5, .inl (n, n))], [.inl (-1, -1)], w, 0, 0)) (q := _) rfl rfl ?_
      exact yreach.ret (q := (some (.inl (-1, -1)), w, 0, 0)) ((xstep_at rfl).trans rfl) rfl
  · have n1 : a < 0 ∨ 6 ≤ a ∨ b < 0 ∨ 6 ≤ b := by omega
    rw [show zCpA S a i b j n = -1 from if_pos n1, show zCpS S a i b j n = S from if_pos n1]
    by_cases hb : 0 ≤ b ∧ b < 6
    · obtain ⟨t, rfl⟩ : ∃ r : Nat, b = (r : Int) := ⟨b.toNat, by omega⟩
      have ht : t < 6 := by omega
      refine ⟨w, zex (j := 17) rfl (Nat.le_of_ble_eq_true rfl) ?_, hU⟩
      refine yreach.at (S' := (1, [(0, .inr (.inr (1, 0))), (1, .inl (a, a)), (2, .inl (i, i)), (3, .inl ((t : Int), (t : Int))), (4, .inl (j, j)), (5, .inl (n, n))], [.inr (.inr (1, 0))], w, 0, 0)) (q := _) rfl rfl ?_
      refine yreach.at (S' := (2, [(0, .inr (.inr (1, 0))), (1, .inl (a, a)), (2, .inl (i, i)), (3, .inl ((t : Int), (t : Int))), (4, .inl (j, j)), (5, .inl (n, n))], [.inl (a, a), .inr (.inr (1, 0))], w, 0, 0)) (q := _) rfl rfl ?_
      refine ycall_at (N := xm9) (ro := some (.inr (.inr (0, 0)))) (w' := w) (recv := true) (i := .invokevirtual 78) (a := 9) (na := 2) (z := 0) rfl (fun _ => rfl) rfl (zrow_no hU ha) ⟨Nat.le_of_ble_eq_true rfl, Nat.le_of_ble_eq_true rfl, Nat.le_of_ble_eq_true rfl, Nat.le_of_ble_eq_true rfl, Nat.le_of_ble_eq_true rfl, Nat.le_of_ble_eq_true rfl, (xrecv_at (as := [.inl (a, a)]) hw)⟩ ?_
      show yreach (ySt sc xm17) (yJm l D tA ex sc xm17) (_) (5, [(0, .inr (.inr (1, 0))), (1, .inl (a, a)), (2, .inl (i, i)), (3, .inl ((t : Int), (t : Int))), (4, .inl (j, j)), (5, .inl (n, n))], [.inr (.inr (0, 0))], w, 0, 0)
      refine yreach.at (S' := (7, [(6, .inr (.inr (0, 0))), (0, .inr (.inr (1, 0))), (1, .inl (a, a)), (2, .inl (i, i)), (3, .inl ((t : Int), (t : Int))), (4, .inl (j, j)), (5, .inl (n, n))], [], w, 0, 0)) (q := _) rfl rfl ?_
      refine yreach.at (S' := (8, [(6, .inr (.inr (0, 0))), (0, .inr (.inr (1, 0))), (1, .inl (a, a)), (2, .inl (i, i)), (3, .inl ((t : Int), (t : Int))), (4, .inl (j, j)), (5, .inl (n, n))], [.inr (.inr (1, 0))], w, 0, 0)) (q := _) rfl rfl ?_
      refine yreach.at (S' := (9, [(6, .inr (.inr (0, 0))), (0, .inr (.inr (1, 0))), (1, .inl (a, a)), (2, .inl (i, i)), (3, .inl ((t : Int), (t : Int))), (4, .inl (j, j)), (5, .inl (n, n))], [.inl ((t : Int), (t : Int)), .inr (.inr (1, 0))], w, 0, 0)) (q := _) rfl rfl ?_
      refine ycall_at (N := xm9) (ro := some (.inr (.inr (1, 25 + 2 * (0 + t))))) (w' := w) (recv := true) (i := .invokevirtual 78) (a := 9) (na := 2) (z := 0) rfl (fun _ => rfl) rfl (zrow_in hU ht) ⟨Nat.le_of_ble_eq_true rfl, Nat.le_of_ble_eq_true rfl, Nat.le_of_ble_eq_true rfl, Nat.le_of_ble_eq_true rfl, Nat.le_of_ble_eq_true rfl, Nat.le_of_ble_eq_true rfl, (xrecv_at (as := [.inl ((t : Int), (t : Int))]) hw)⟩ ?_
      show yreach (ySt sc xm17) (yJm l D tA ex sc xm17) (_) (12, [(6, .inr (.inr (0, 0))), (0, .inr (.inr (1, 0))), (1, .inl (a, a)), (2, .inl (i, i)), (3, .inl ((t : Int), (t : Int))), (4, .inl (j, j)), (5, .inl (n, n))], [.inr (.inr (1, 25 + 2 * (0 + t)))], w, 0, 0)
      refine yreach.at (S' := (14, [(7, .inr (.inr (1, 25 + 2 * (0 + t)))), (6, .inr (.inr (0, 0))), (0, .inr (.inr (1, 0))), (1, .inl (a, a)), (2, .inl (i, i)), (3, .inl ((t : Int), (t : Int))), (4, .inl (j, j)), (5, .inl (n, n))], [], w, 0, 0)) (q := _) rfl rfl ?_
      refine yreach.at (S' := (16, [(7, .inr (.inr (1, 25 + 2 * (0 + t)))), (6, .inr (.inr (0, 0))), (0, .inr (.inr (1, 0))), (1, .inl (a, a)), (2, .inl (i, i)), (3, .inl ((t : Int), (t : Int))), (4, .inl (j, j)), (5, .inl (n, n))], [.inr (.inr (0, 0))], w, 0, 0)) (q := _) rfl rfl ?_
      refine yreach.at (S' := (24, [(7, .inr (.inr (1, 25 + 2 * (0 + t)))), (6, .inr (.inr (0, 0))), (0, .inr (.inr (1, 0))), (1, .inl (a, a)), (2, .inl (i, i)), (3, .inl ((t : Int), (t : Int))), (4, .inl (j, j)), (5, .inl (n, n))], [], w, 0, 0)) (q := _) rfl rfl ?_
      refine yreach.at (S' := (25, [(7, .inr (.inr (1, 25 + 2 * (0 + t)))), (6, .inr (.inr (0, 0))), (0, .inr (.inr (1, 0))), (1, .inl (a, a)), (2, .inl (i, i)), (3, .inl ((t : Int), (t : Int))), (4, .inl (j, j)), (5, .inl (n, n))], [.inl (-1, -1)], w, 0, 0)) (q := _) rfl rfl ?_
      exact yreach.ret (q := (some (.inl (-1, -1)), w, 0, 0)) ((xstep_at rfl).trans rfl) rfl
    · refine ⟨w, zex (j := 17) rfl (Nat.le_of_ble_eq_true rfl) ?_, hU⟩
      refine yreach.at (S' := (1, [(0, .inr (.inr (1, 0))), (1, .inl (a, a)), (2, .inl (i, i)), (3, .inl (b, b)), (4, .inl (j, j)), (5, .inl (n, n))], [.inr (.inr (1, 0))], w, 0, 0)) (q := _) rfl rfl ?_
      refine yreach.at (S' := (2, [(0, .inr (.inr (1, 0))), (1, .inl (a, a)), (2, .inl (i, i)), (3, .inl (b, b)), (4, .inl (j, j)), (5, .inl (n, n))], [.inl (a, a), .inr (.inr (1, 0))], w, 0, 0)) (q := _) rfl rfl ?_
      refine ycall_at (N := xm9) (ro := some (.inr (.inr (0, 0)))) (w' := w) (recv := true) (i := .invokevirtual 78) (a := 9) (na := 2) (z := 0) rfl (fun _ => rfl) rfl (zrow_no hU ha) ⟨Nat.le_of_ble_eq_true rfl, Nat.le_of_ble_eq_true rfl, Nat.le_of_ble_eq_true rfl, Nat.le_of_ble_eq_true rfl, Nat.le_of_ble_eq_true rfl, Nat.le_of_ble_eq_true rfl, (xrecv_at (as := [.inl (a, a)]) hw)⟩ ?_
      show yreach (ySt sc xm17) (yJm l D tA ex sc xm17) (_) (5, [(0, .inr (.inr (1, 0))), (1, .inl (a, a)), (2, .inl (i, i)), (3, .inl (b, b)), (4, .inl (j, j)), (5, .inl (n, n))], [.inr (.inr (0, 0))], w, 0, 0)
      refine yreach.at (S' := (7, [(6, .inr (.inr (0, 0))), (0, .inr (.inr (1, 0))), (1, .inl (a, a)), (2, .inl (i, i)), (3, .inl (b, b)), (4, .inl (j, j)), (5, .inl (n, n))], [], w, 0, 0)) (q := _) rfl rfl ?_
      refine yreach.at (S' := (8, [(6, .inr (.inr (0, 0))), (0, .inr (.inr (1, 0))), (1, .inl (a, a)), (2, .inl (i, i)), (3, .inl (b, b)), (4, .inl (j, j)), (5, .inl (n, n))], [.inr (.inr (1, 0))], w, 0, 0)) (q := _) rfl rfl ?_
      refine yreach.at (S' := (9, [(6, .inr (.inr (0, 0))), (0, .inr (.inr (1, 0))), (1, .inl (a, a)), (2, .inl (i, i)), (3, .inl (b, b)), (4, .inl (j, j)), (5, .inl (n, n))], [.inl (b, b), .inr (.inr (1, 0))], w, 0, 0)) (q := _) rfl rfl ?_
      refine ycall_at (N := xm9) (ro := some (.inr (.inr (0, 0)))) (w' := w) (recv := true) (i := .invokevirtual 78) (a := 9) (na := 2) (z := 0) rfl (fun _ => rfl) rfl (zrow_no hU hb) ⟨Nat.le_of_ble_eq_true rfl, Nat.le_of_ble_eq_true rfl, Nat.le_of_ble_eq_true rfl, Nat.le_of_ble_eq_true rfl, Nat.le_of_ble_eq_true rfl, Nat.le_of_ble_eq_true rfl, (xrecv_at (as := [.inl (b, b)]) hw)⟩ ?_
      show yreach (ySt sc xm17) (yJm l D tA ex sc xm17) (_) (12, [(6, .inr (.inr (0, 0))), (0, .inr (.inr (1, 0))), (1, .inl (a, a)), (2, .inl (i, i)), (3, .inl (b, b)), (4, .inl (j, j)), (5, .inl (n, n))], [.inr (.inr (0, 0))], w, 0, 0)
      refine yreach.at (S' := (14, [(7, .inr (.inr (0, 0))), (6, .inr (.inr (0, 0))), (0, .inr (.inr (1, 0))), (1, .inl (a, a)), (2, .inl (i, i)), (3, .inl (b, b)), (4, .inl (j, j)), (5, .inl (n, n))], [], w, 0, 0)) (q := _) rfl rfl ?_
      refine yreach.at (S' := (16, [(7, .inr (.inr (0, 0))), (6, .inr (.inr (0, 0))), (0, .inr (.inr (1, 0))), (1, .inl (a, a)), (2, .inl (i, i)), (3, .inl (b, b)), (4, .inl (j, j)), (5, .inl (n, n))], [.inr (.inr (0, 0))], w, 0, 0)) (q := _) rfl rfl ?_
      refine yreach.at (S' := (24, [(7, .inr (.inr (0, 0))), (6, .inr (.inr (0, 0))), (0, .inr (.inr (1, 0))), (1, .inl (a, a)), (2, .inl (i, i)), (3, .inl (b, b)), (4, .inl (j, j)), (5, .inl (n, n))], [], w, 0, 0)) (q := _) rfl rfl ?_
      refine yreach.at (S' := (25, [(7, .inr (.inr (0, 0))), (6, .inr (.inr (0, 0))), (0, .inr (.inr (1, 0))), (1, .inl (a, a)), (2, .inl (i, i)), (3, .inl (b, b)), (4, .inl (j, j)), (5, .inl (n, n))], [.inl (-1, -1)], w, 0, 0)) (q := _) rfl rfl ?_
      exact yreach.ret (q := (some (.inl (-1, -1)), w, 0, 0)) ((xstep_at rfl).trans rfl) rfl
end YH
