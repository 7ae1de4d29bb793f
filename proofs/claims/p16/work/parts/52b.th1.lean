/-! ===== by hand: a bit of a number ===== -/
section YH
variable {l : Launch} {D : va_G} {tA : Nat → ClassId} {ex : List Nat} {sc : List XV}
/-- a contract, for this program -/
abbrev yco (l : Launch) (D : va_G) (tA : Nat → ClassId) (ex : List Nat) (sc : List XV) (N : XM) (C : YC) : Prop := ycont l D vwCl (tysX tA) tA ex (xSTX ++ [sc]) xSV xNW xNF xTs yKD N C
abbrev yno : XF := fun _ _ _ => none
abbrev ySt (sc : List XV) (M : XM) : XS → Option XR := xstep yno xMT xFT xFD xTY xTC (xSTX ++ [sc]) M
abbrev yJm (l : Launch) (D : va_G) (tA : Nat → ClassId) (ex : List Nat) (sc : List XV) (M : XM) : XS → XS → Prop := XJ l D vwCl (tysX tA) tA ex (xSTX ++ [sc]) xSV xNW xNF xTs xMT xFT xFD xTY xTC M
/-- a method's contract out of what comes to an end -/
theorem yco_of {M : XM} {j : Nat} (hM : xMT j = some M) {as : List XV} {w : XW} {Post : Option XV × XW × Nat × Nat → Prop} (hl : (as.map xcat).sum ≤ xm_l M) (h0 : ∀ q, Post q → q.2.2 = (0, 0)) (h : yreach (ySt sc M) (yJm l D tA ex sc M) Post (0, xk_args 0 as, [], w, 0, 0)) : ∃ ro w', XMet l D vwCl (tysX tA) tA ex (xSTX ++ [sc]) xSV xNW xNF xTs M as w ro w' ∧ Post (ro, w', 0, 0) := by
  obtain ⟨q, hq, hrun⟩ := h
  obtain ⟨ro, w', k2, n2⟩ := q
  have e := h0 _ hq
  cases e
  exact ⟨ro, w', xmet_ofK x_good (x_tysX tA) (x_tysY tA) (x_tysC tA) x_ok (cf := yno) (fun j N as w ro w' _ h => by cases h) hM hl ⟨Nat.zero_le _, Nat.zero_le _⟩ (Or.inr rfl) hrun, hq⟩
theorem yreach.at {M : XM} {J : XS → XS → Prop} {Post : Option XV × XW × Nat × Nat → Prop} {pc : Nat} {lv : XL} {st : List XV} {w : XW} {k n : Nat} {q : XE} {S' : XS} (hf : xfetch (xm_t M) pc = some q) (hi : xins yno xMT xFT xFD xTY xTC (xSTX ++ [sc]) M q.1 q.2.1 q.2.2.1 q.2.2.2 pc lv st w k n = some (.inl S')) (h : yreach (ySt sc M) J Post S') : yreach (ySt sc M) J Post (pc, lv, st, w, k, n) := yreach.go ((xstep_at hf).trans hi) h
end YH
theorem y_and1 (y : Int64) : (y &&& 1).toInt = y.toInt % 2 := by
  have e1 : (y &&& 1).toBitVec = y.toBitVec &&& 1#64 := Int64.toBitVec_and y 1
  have e2 : (y.toBitVec &&& 1#64).toNat = y.toBitVec.toNat % 2 := by
    rw [BitVec.toNat_and]
    exact Nat.and_one_is_mod _
  have e3 : (y &&& 1).toInt = ((y.toBitVec.toNat % 2 : Nat) : Int) := by
    show (y &&& 1).toBitVec.toInt = _
    rw [e1, BitVec.toInt_eq_toNat_of_lt (by rw [e2]; omega), e2]
  have e4 : y.toInt = (y.toBitVec.toNat : Int) ∨ y.toInt = (y.toBitVec.toNat : Int) - 18446744073709551616 := by
    show y.toBitVec.toInt = _ ∨ y.toBitVec.toInt = _
    rw [BitVec.toInt_eq_toNat_cond]
    split
    · exact Or.inl rfl
    · exact Or.inr rfl
  rw [e3]
  rcases e4 with e4 | e4 <;> omega
theorem y_bitmod {z : Int} {k : Nat} (hk : k < 64) : (z % 18446744073709551616) / (2 ^ k : Int) % 2 = z / (2 ^ k : Int) % 2 := by
  have h1 : (18446744073709551616 : Int) = 2 ^ k * (2 * 2 ^ (63 - k)) := by
    have e : (2 : Int) ^ 64 = 2 ^ k * 2 ^ (64 - k) := by
      rw [← Int.pow_add]
      congr 1
      omega
    have e2 : (2 : Int) ^ (64 - k) = 2 * 2 ^ (63 - k) := by
      rw [show 64 - k = (63 - k) + 1 by omega, Int.pow_succ, Int.mul_comm]
    rw [← e2, ← e]
    rfl
  have h2 : z = z % 18446744073709551616 + 2 ^ k * (2 * (2 ^ (63 - k) * (z / 18446744073709551616))) := by
    have h3 := Int.emod_add_mul_ediv z 18446744073709551616
    have h4 : (2 : Int) ^ k * (2 * (2 ^ (63 - k) * (z / 18446744073709551616))) = 18446744073709551616 * (z / 18446744073709551616) := by
      rw [h1]
      simp only [Int.mul_assoc]
    rw [h4]
    exact h3.symm
  have hp : (2 ^ k : Int) ≠ 0 := Int.ne_of_gt (Int.pow_pos (by decide))
  have h5 : z / (2 ^ k : Int) = (z % 18446744073709551616) / (2 ^ k : Int) + 2 * (2 ^ (63 - k) * (z / 18446744073709551616)) := by
    rw [h2]
    rw [Int.add_mul_ediv_left _ _ hp]
    rw [← h2]
  rw [h5]
  exact (Int.add_mul_emod_self_left _ _ _).symm
theorem y_sh1 : ∀ k : Nat, k < 64 → (Int32.ofInt (k : Int)).toInt64.toUInt64 &&& Int64.toUInt64 63 = UInt64.ofNat k := by decide +kernel
theorem y_sh2 : ∀ k : Nat, k < 64 → ((Int32.ofInt (k : Int)).toInt64 &&& 63).toBitVec.smod 64 = BitVec.ofNat 64 k := by decide +kernel
theorem y_sh3 : ∀ k : Nat, k < 64 → (UInt64.ofNat k).toNat % 64 = k := by decide +kernel
theorem y_lush {z : Int} {k : Nat} (hk : k < 64) : (((Int64.ofInt z).toUInt64 >>> ((Int32.ofInt (k : Int)).toInt64.toUInt64 &&& Int64.toUInt64 63)).toInt64 &&& Int64.ofInt 1).toInt = ybit z (k : Int) := by
  rw [y_sh1 k hk]
  have e0 : Int64.ofInt 1 = 1 := rfl
  rw [e0, y_and1]
  have e1 : ((Int64.ofInt z).toUInt64 >>> UInt64.ofNat k).toInt64.toBitVec.toNat = (z % 18446744073709551616).toNat / 2 ^ k := by
    show ((Int64.ofInt z).toUInt64 >>> UInt64.ofNat k).toNat = _
    rw [UInt64.toNat_shiftRight, y_sh3 k hk, Nat.shiftRight_eq_div_pow]
    congr 1
  have e4 : ∀ y : Int64, y.toInt % 2 = ((y.toBitVec.toNat % 2 : Nat) : Int) := fun y => by
    have : y.toInt = (y.toBitVec.toNat : Int) ∨ y.toInt = (y.toBitVec.toNat : Int) - 18446744073709551616 := by
      show y.toBitVec.toInt = _ ∨ y.toBitVec.toInt = _
      rw [BitVec.toInt_eq_toNat_cond]
      split
      · exact Or.inl rfl
      · exact Or.inr rfl
    rcases this with e4 | e4 <;> omega
  rw [e4, e1]
  have h0 : 0 ≤ z % 18446744073709551616 := Int.emod_nonneg _ (by decide)
  have e5 : (((z % 18446744073709551616).toNat / 2 ^ k % 2 : Nat) : Int) = (z % 18446744073709551616) / (2 ^ k : Int) % 2 := by
    rw [Int.natCast_emod, Int.natCast_ediv, Int.toNat_of_nonneg h0]
    simp
  rw [e5, y_bitmod hk]
  unfold ybit
  rw [Int.toNat_natCast]
theorem y_lsh {z : Int} {k : Nat} (hz : ylng z) (hk : k < 64) : ((Int64.ofInt z >>> ((Int32.ofInt (k : Int)).toInt64 &&& 63)) &&& Int64.ofInt 1).toInt = ybit z (k : Int) := by
  have e0 : Int64.ofInt 1 = 1 := rfl
  rw [e0, y_and1]
  have e1 : (Int64.ofInt z >>> ((Int32.ofInt (k : Int)).toInt64 &&& 63)).toInt = z / (2 ^ k : Int) := by
    show (Int64.ofInt z >>> ((Int32.ofInt (k : Int)).toInt64 &&& 63)).toBitVec.toInt = _
    rw [Int64.toBitVec_shiftRight, y_sh2 k hk]
    show ((Int64.ofInt z).toBitVec.sshiftRight (BitVec.ofNat 64 k).toNat).toInt = _
    rw [BitVec.toInt_sshiftRight, BitVec.toNat_ofNat, Nat.mod_eq_of_lt (by omega)]
    have e2 : (Int64.ofInt z).toBitVec.toInt = z := y_of64 hz
    rw [e2, Int.shiftRight_eq_div_pow]
    simp
  rw [e1]
  unfold ybit
  rw [Int.toNat_natCast]
theorem yhb26_v {z : Int} {k : Nat} (hz : ylng z) (hk : k < 64) : xl2 (fun x y => x &&& y) (xls (fun x y => (x.toUInt64 >>> (y.toInt64.toUInt64 &&& Int64.toUInt64 63)).toInt64) (some z) ((k : Int), (k : Int))) (some 1) = some (ybit z (k : Int)) := by
  rw [xls_ex]
  show some (Int64.toInt (_ &&& _)) = _
  rw [Int64.ofInt_toInt]
  rw [show ybit z (k : Int) = _ from (y_lush hk).symm]
theorem yhb26_1 {l : Launch} {D : va_G} {tA : Nat → ClassId} {ex : List Nat} {sc : List XV} {z : Int} {k : Nat} {w : XW} (hz : ylng z) (hk : k < 64) (hb : ybit z (k : Int) = 1) : yreach (ySt sc xm26) (yJm l D tA ex sc xm26) (fun q => q = (some (.inl (1, 1)), w, 0, 0)) (0, [(0, .inr (.inl (some z))), (2, .inl ((k : Int), (k : Int)))], [], w, 0, 0) := by
  refine yreach.at (S' := (1, [(0, .inr (.inl (some z))), (2, .inl ((k : Int), (k : Int)))], [.inr (.inl (some z))], w, 0, 0)) (q := _) rfl rfl ?_
  refine yreach.at (S' := (2, [(0, .inr (.inl (some z))), (2, .inl ((k : Int), (k : Int)))], [.inl ((k : Int), (k : Int)), .inr (.inl (some z))], w, 0, 0)) (q := _) rfl rfl ?_
  refine yreach.at (S' := (3, [(0, .inr (.inl (some z))), (2, .inl ((k : Int), (k : Int)))], [.inr (.inl (xls (fun x y => (x.toUInt64 >>> (y.toInt64.toUInt64 &&& Int64.toUInt64 63)).toInt64) (some z) ((k : Int), (k : Int))))], w, 0, 0)) (q := _) rfl rfl ?_
  refine yreach.at (S' := (4, [(0, .inr (.inl (some z))), (2, .inl ((k : Int), (k : Int)))], [.inr (.inl (some 1)), .inr (.inl (xls (fun x y => (x.toUInt64 >>> (y.toInt64.toUInt64 &&& Int64.toUInt64 63)).toInt64) (some z) ((k : Int), (k : Int))))], w, 0, 0)) (q := _) rfl rfl ?_
  refine yreach.at (S' := (5, [(0, .inr (.inl (some z))), (2, .inl ((k : Int), (k : Int)))], [.inr (.inl (some 1))], w, 0, 0)) (q := _) rfl (by
    show (some (.inl (5, [(0, .inr (.inl (some z))), (2, .inl ((k : Int), (k : Int)))], [.inr (.inl (xl2 (fun x y => x &&& y) (xls (fun x y => (x.toUInt64 >>> (y.toInt64.toUInt64 &&& Int64.toUInt64 63)).toInt64) (some z) ((k : Int), (k : Int))) (some 1)))], w, 0, 0)) : Option XR) = _
    rw [yhb26_v hz hk, hb]) ?_
  refine yreach.at (S' := (6, [(0, .inr (.inl (some z))), (2, .inl ((k : Int), (k : Int)))], [.inr (.inl (some 1)), .inr (.inl (some 1))], w, 0, 0)) (q := _) rfl rfl ?_
  refine yreach.at (S' := (7, [(0, .inr (.inl (some z))), (2, .inl ((k : Int), (k : Int)))], [.inl (0, 0)], w, 0, 0)) (q := _) rfl rfl ?_
  refine yreach.at (S' := (10, [(0, .inr (.inl (some z))), (2, .inl ((k : Int), (k : Int)))], [], w, 0, 0)) (q := _) rfl rfl ?_
  refine yreach.at (S' := (11, [(0, .inr (.inl (some z))), (2, .inl ((k : Int), (k : Int)))], [.inl (1, 1)], w, 0, 0)) (q := _) rfl rfl ?_
  refine yreach.at (S' := (15, [(0, .inr (.inl (some z))), (2, .inl ((k : Int), (k : Int)))], [.inl (1, 1)], w, 0, 0)) (q := _) rfl rfl ?_
  exact yreach.ret (q := (some (.inl (1, 1)), w, 0, 0)) ((xstep_at rfl).trans (by
    show xh_ret 0 (some .boolean) [.inl (1, 1)] w 0 0 = _
    unfold xh_ret
    dsimp only
    rw [if_pos (by decide)])) rfl
theorem yhb26_0 {l : Launch} {D : va_G} {tA : Nat → ClassId} {ex : List Nat} {sc : List XV} {z : Int} {k : Nat} {w : XW} (hz : ylng z) (hk : k < 64) (hb : ybit z (k : Int) = 0) : yreach (ySt sc xm26) (yJm l D tA ex sc xm26) (fun q => q = (some (.inl (0, 0)), w, 0, 0)) (0, [(0, .inr (.inl (some z))), (2, .inl ((k : Int), (k : Int)))], [], w, 0, 0) := by
  refine yreach.at (S' := (1, [(0, .inr (.inl (some z))), (2, .inl ((k : Int), (k : Int)))], [.inr (.inl (some z))], w, 0, 0)) (q := _) rfl rfl ?_
  refine yreach.at (S' := (2, [(0, .inr (.inl (some z))), (2, .inl ((k : Int), (k : Int)))], [.inl ((k : Int), (k : Int)), .inr (.inl (some z))], w, 0, 0)) (q := _) rfl rfl ?_
  refine yreach.at (S' := (3, [(0, .inr (.inl (some z))), (2, .inl ((k : Int), (k : Int)))], [.inr (.inl (xls (fun x y => (x.toUInt64 >>> (y.toInt64.toUInt64 &&& Int64.toUInt64 63)).toInt64) (some z) ((k : Int), (k : Int))))], w, 0, 0)) (q := _) rfl rfl ?_
  refine yreach.at (S' := (4, [(0, .inr (.inl (some z))), (2, .inl ((k : Int), (k : Int)))], [.inr (.inl (some 1)), .inr (.inl (xls (fun x y => (x.toUInt64 >>> (y.toInt64.toUInt64 &&& Int64.toUInt64 63)).toInt64) (some z) ((k : Int), (k : Int))))], w, 0, 0)) (q := _) rfl rfl ?_
  refine yreach.at (S' := (5, [(0, .inr (.inl (some z))), (2, .inl ((k : Int), (k : Int)))], [.inr (.inl (some 0))], w, 0, 0)) (q := _) rfl (by
    show (some (.inl (5, [(0, .inr (.inl (some z))), (2, .inl ((k : Int), (k : Int)))], [.inr (.inl (xl2 (fun x y => x &&& y) (xls (fun x y => (x.toUInt64 >>> (y.toInt64.toUInt64 &&& Int64.toUInt64 63)).toInt64) (some z) ((k : Int), (k : Int))) (some 1)))], w, 0, 0)) : Option XR) = _
    rw [yhb26_v hz hk, hb]) ?_
  refine yreach.at (S' := (6, [(0, .inr (.inl (some z))), (2, .inl ((k : Int), (k : Int)))], [.inr (.inl (some 1)), .inr (.inl (some 0))], w, 0, 0)) (q := _) rfl rfl ?_
  refine yreach.at (S' := (7, [(0, .inr (.inl (some z))), (2, .inl ((k : Int), (k : Int)))], [.inl (-1, -1)], w, 0, 0)) (q := _) rfl rfl ?_
  refine yreach.at (S' := (14, [(0, .inr (.inl (some z))), (2, .inl ((k : Int), (k : Int)))], [], w, 0, 0)) (q := _) rfl rfl ?_
  refine yreach.at (S' := (15, [(0, .inr (.inl (some z))), (2, .inl ((k : Int), (k : Int)))], [.inl (0, 0)], w, 0, 0)) (q := _) rfl rfl ?_
  exact yreach.ret (q := (some (.inl (0, 0)), w, 0, 0)) ((xstep_at rfl).trans (by
    show xh_ret 0 (some .boolean) [.inl (0, 0)] w 0 0 = _
    unfold xh_ret
    dsimp only
    rw [if_pos (by decide)])) rfl
theorem yhb26 {l : Launch} {D : va_G} {tA : Nat → ClassId} {ex : List Nat} {sc : List XV} : yco l D tA ex sc xm26 ([(2, 0, 0), (0, 0, 63)], ([], []), 1, [(some (.inr (1, [])), [], some (0, 1, 1)), (some (.inr (0, [])), [], some (0, 1, 0))]) := by
  intro ks as w gs ha h4 hg _
  obtain ⟨x1, l1, e1, ⟨z, ez, hz, _⟩, x2, l2, e2, ⟨k, ek, k0, k1, _⟩, e3⟩ := ha
  have e3 : l2 = [] := e3
  subst e3
  subst e2
  subst e1
  subst ez
  subst ek
  have hg : gs = [] := hg
  subst hg
  obtain ⟨n, rfl⟩ : ∃ n : Nat, k = (n : Int) := ⟨k.toNat, by omega⟩
  have hn : n < 64 := by omega
  have hb : ybit z (n : Int) = 0 ∨ ybit z (n : Int) = 1 := Int.emod_two_eq _
  rcases hb with hb | hb
  · obtain ⟨ro, w', m1, m2⟩ := yco_of (j := 26) (as := [.inr (.inl (some z)), .inl ((n : Int), (n : Int))]) rfl (Nat.le_of_ble_eq_true rfl) (fun q hq => by rw [hq]) (yhb26_0 (l := l) (D := D) (tA := tA) (ex := ex) (sc := sc) (w := w) hz hn hb)
    cases m2
    exact ⟨_, _, m1, h4, fun _ => rfl, (fun h => by cases h), (fun h => by cases h), (fun h => by cases h), _, List.mem_cons_of_mem _ List.mem_cons_self, ⟨rfl, (show (-2147483648 : Int) ≤ 0 + 0 by decide), (show (0 : Int) + 0 ≤ 2147483647 by decide)⟩, (fun g hg => by cases hg), hb⟩
  · obtain ⟨ro, w', m1, m2⟩ := yco_of (j := 26) (as := [.inr (.inl (some z)), .inl ((n : Int), (n : Int))]) rfl (Nat.le_of_ble_eq_true rfl) (fun q hq => by rw [hq]) (yhb26_1 (l := l) (D := D) (tA := tA) (ex := ex) (sc := sc) (w := w) hz hn hb)
    cases m2
    exact ⟨_, _, m1, h4, fun _ => rfl, (fun h => by cases h), (fun h => by cases h), (fun h => by cases h), _, List.mem_cons_self, ⟨rfl, (show (-2147483648 : Int) ≤ 1 + 0 by decide), (show (1 : Int) + 0 ≤ 2147483647 by decide)⟩, (fun g hg => by cases hg), hb⟩
theorem yhb192_v {z : Int} {k : Nat} (hz : ylng z) (hk : k < 64) : xl2 (fun x y => x &&& y) (xls (fun x y => x >>> (y.toInt64 &&& 63)) (some z) ((k : Int), (k : Int))) (some 1) = some (ybit z (k : Int)) := by
  rw [xls_ex]
  show some (Int64.toInt (_ &&& _)) = _
  rw [Int64.ofInt_toInt]
  rw [show ybit z (k : Int) = _ from (y_lsh hz hk).symm]
theorem yhb192_1 {l : Launch} {D : va_G} {tA : Nat → ClassId} {ex : List Nat} {sc : List XV} {z : Int} {k : Nat} {w : XW} (hz : ylng z) (hk : k < 64) (hb : ybit z (k : Int) = 1) : yreach (ySt sc xm192) (yJm l D tA ex sc xm192) (fun q => q = (some (.inl (1, 1)), w, 0, 0)) (0, [(0, .inr (.inl (some z))), (2, .inl ((k : Int), (k : Int)))], [], w, 0, 0) := by
  refine yreach.at (S' := (1, [(0, .inr (.inl (some z))), (2, .inl ((k : Int), (k : Int)))], [.inr (.inl (some z))], w, 0, 0)) (q := _) rfl rfl ?_
  refine yreach.at (S' := (2, [(0, .inr (.inl (some z))), (2, .inl ((k : Int), (k : Int)))], [.inl ((k : Int), (k : Int)), .inr (.inl (some z))], w, 0, 0)) (q := _) rfl rfl ?_
  refine yreach.at (S' := (3, [(0, .inr (.inl (some z))), (2, .inl ((k : Int), (k : Int)))], [.inr (.inl (xls (fun x y => x >>> (y.toInt64 &&& 63)) (some z) ((k : Int), (k : Int))))], w, 0, 0)) (q := _) rfl rfl ?_
  refine yreach.at (S' := (4, [(0, .inr (.inl (some z))), (2, .inl ((k : Int), (k : Int)))], [.inr (.inl (some 1)), .inr (.inl (xls (fun x y => x >>> (y.toInt64 &&& 63)) (some z) ((k : Int), (k : Int))))], w, 0, 0)) (q := _) rfl rfl ?_
  refine yreach.at (S' := (5, [(0, .inr (.inl (some z))), (2, .inl ((k : Int), (k : Int)))], [.inr (.inl (some 1))], w, 0, 0)) (q := _) rfl (by
    show (some (.inl (5, [(0, .inr (.inl (some z))), (2, .inl ((k : Int), (k : Int)))], [.inr (.inl (xl2 (fun x y => x &&& y) (xls (fun x y => x >>> (y.toInt64 &&& 63)) (some z) ((k : Int), (k : Int))) (some 1)))], w, 0, 0)) : Option XR) = _
    rw [yhb192_v hz hk, hb]) ?_
  refine yreach.at (S' := (6, [(0, .inr (.inl (some z))), (2, .inl ((k : Int), (k : Int)))], [.inr (.inl (some 1)), .inr (.inl (some 1))], w, 0, 0)) (q := _) rfl rfl ?_
  refine yreach.at (S' := (7, [(0, .inr (.inl (some z))), (2, .inl ((k : Int), (k : Int)))], [.inl (0, 0)], w, 0, 0)) (q := _) rfl rfl ?_
  refine yreach.at (S' := (10, [(0, .inr (.inl (some z))), (2, .inl ((k : Int), (k : Int)))], [], w, 0, 0)) (q := _) rfl rfl ?_
  refine yreach.at (S' := (11, [(0, .inr (.inl (some z))), (2, .inl ((k : Int), (k : Int)))], [.inl (1, 1)], w, 0, 0)) (q := _) rfl rfl ?_
  refine yreach.at (S' := (15, [(0, .inr (.inl (some z))), (2, .inl ((k : Int), (k : Int)))], [.inl (1, 1)], w, 0, 0)) (q := _) rfl rfl ?_
  exact yreach.ret (q := (some (.inl (1, 1)), w, 0, 0)) ((xstep_at rfl).trans (by
    show xh_ret 0 (some .boolean) [.inl (1, 1)] w 0 0 = _
    unfold xh_ret
    dsimp only
    rw [if_pos (by decide)])) rfl
theorem yhb192_0 {l : Launch} {D : va_G} {tA : Nat → ClassId} {ex : List Nat} {sc : List XV} {z : Int} {k : Nat} {w : XW} (hz : ylng z) (hk : k < 64) (hb : ybit z (k : Int) = 0) : yreach (ySt sc xm192) (yJm l D tA ex sc xm192) (fun q => q = (some (.inl (0, 0)), w, 0, 0)) (0, [(0, .inr (.inl (some z))), (2, .inl ((k : Int), (k : Int)))], [], w, 0, 0) := by
  refine yreach.at (S' := (1, [(0, .inr (.inl (some z))), (2, .inl ((k : Int), (k : Int)))], [.inr (.inl (some z))], w, 0, 0)) (q := _) rfl rfl ?_
  refine yreach.at (S' := (2, [(0, .inr (.inl (some z))), (2, .inl ((k : Int), (k : Int)))], [.inl ((k : Int), (k : Int)), .inr (.inl (some z))], w, 0, 0)) (q := _) rfl rfl ?_
  refine yreach.at (S' := (3, [(0, .inr (.inl (some z))), (2, .inl ((k : Int), (k : Int)))], [.inr (.inl (xls (fun x y => x >>> (y.toInt64 &&& 63)) (some z) ((k : Int), (k : Int))))], w, 0, 0)) (q := _) rfl rfl ?_
  refine yreach.at (S' := (4, [(0, .inr (.inl (some z))), (2, .inl ((k : Int), (k : Int)))], [.inr (.inl (some 1)), .inr (.inl (xls (fun x y => x >>> (y.toInt64 &&& 63)) (some z) ((k : Int), (k : Int))))], w, 0, 0)) (q := _) rfl rfl ?_
  refine yreach.at (S' := (5, [(0, .inr (.inl (some z))), (2, .inl ((k : Int), (k : Int)))], [.inr (.inl (some 0))], w, 0, 0)) (q := _) rfl (by
    show (some (.inl (5, [(0, .inr (.inl (some z))), (2, .inl ((k : Int), (k : Int)))], [.inr (.inl (xl2 (fun x y => x &&& y) (xls (fun x y => x >>> (y.toInt64 &&& 63)) (some z) ((k : Int), (k : Int))) (some 1)))], w, 0, 0)) : Option XR) = _
    rw [yhb192_v hz hk, hb]) ?_
  refine yreach.at (S' := (6, [(0, .inr (.inl (some z))), (2, .inl ((k : Int), (k : Int)))], [.inr (.inl (some 1)), .inr (.inl (some 0))], w, 0, 0)) (q := _) rfl rfl ?_
  refine yreach.at (S' := (7, [(0, .inr (.inl (some z))), (2, .inl ((k : Int), (k : Int)))], [.inl (-1, -1)], w, 0, 0)) (q := _) rfl rfl ?_
  refine yreach.at (S' := (14, [(0, .inr (.inl (some z))), (2, .inl ((k : Int), (k : Int)))], [], w, 0, 0)) (q := _) rfl rfl ?_
  refine yreach.at (S' := (15, [(0, .inr (.inl (some z))), (2, .inl ((k : Int), (k : Int)))], [.inl (0, 0)], w, 0, 0)) (q := _) rfl rfl ?_
  exact yreach.ret (q := (some (.inl (0, 0)), w, 0, 0)) ((xstep_at rfl).trans (by
    show xh_ret 0 (some .boolean) [.inl (0, 0)] w 0 0 = _
    unfold xh_ret
    dsimp only
    rw [if_pos (by decide)])) rfl
theorem yhb192 {l : Launch} {D : va_G} {tA : Nat → ClassId} {ex : List Nat} {sc : List XV} : yco l D tA ex sc xm192 ([(2, 0, 0), (0, 0, 63)], ([], []), 1, [(some (.inr (1, [])), [], some (0, 1, 1)), (some (.inr (0, [])), [], some (0, 1, 0))]) := by
  intro ks as w gs ha h4 hg _
  obtain ⟨x1, l1, e1, ⟨z, ez, hz, _⟩, x2, l2, e2, ⟨k, ek, k0, k1, _⟩, e3⟩ := ha
  have e3 : l2 = [] := e3
  subst e3
  subst e2
  subst e1
  subst ez
  subst ek
  have hg : gs = [] := hg
  subst hg
  obtain ⟨n, rfl⟩ : ∃ n : Nat, k = (n : Int) := ⟨k.toNat, by omega⟩
  have hn : n < 64 := by omega
  have hb : ybit z (n : Int) = 0 ∨ ybit z (n : Int) = 1 := Int.emod_two_eq _
  rcases hb with hb | hb
  · obtain ⟨ro, w', m1, m2⟩ := yco_of (j := 192) (as := [.inr (.inl (some z)), .inl ((n : Int), (n : Int))]) rfl (Nat.le_of_ble_eq_true rfl) (fun q hq => by rw [hq]) (yhb192_0 (l := l) (D := D) (tA := tA) (ex := ex) (sc := sc) (w := w) hz hn hb)
    cases m2
    exact ⟨_, _, m1, h4, fun _ => rfl, (fun h => by cases h), (fun h => by cases h), (fun h => by cases h), _, List.mem_cons_of_mem _ List.mem_cons_self, ⟨rfl, (show (-2147483648 : Int) ≤ 0 + 0 by decide), (show (0 : Int) + 0 ≤ 2147483647 by decide)⟩, (fun g hg => by cases hg), hb⟩
  · obtain ⟨ro, w', m1, m2⟩ := yco_of (j := 192) (as := [.inr (.inl (some z)), .inl ((n : Int), (n : Int))]) rfl (Nat.le_of_ble_eq_true rfl) (fun q hq => by rw [hq]) (yhb192_1 (l := l) (D := D) (tA := tA) (ex := ex) (sc := sc) (w := w) hz hn hb)
    cases m2
    exact ⟨_, _, m1, h4, fun _ => rfl, (fun h => by cases h), (fun h => by cases h), (fun h => by cases h), _, List.mem_cons_self, ⟨rfl, (show (-2147483648 : Int) ≤ 1 + 0 by decide), (show (1 : Int) + 0 ≤ 2147483647 by decide)⟩, (fun g hg => by cases hg), hb⟩
