/-! ===== typed steps: division by a number ===== -/
theorem xdiv_ex {a d : Int} (ha : yrg a) (h0 : 0 ≤ a) (hd : 0 < d) (hd2 : d ≤ 2147483647) : xe2 (fun x y => x / y) (a, a) (d, d) = (a / d, a / d) := by
  have hdr : yrg d := ⟨by omega, hd2⟩
  have e1 : (Int32.ofInt a / Int32.ofInt d).toInt = a / d := by
    rw [Int32.toInt_div_of_ne_right _ _ (by
      intro h
      have := x_ofInt hdr
      rw [h] at this
      have h2 : (-1 : Int32).toInt = -1 := by decide
      rw [h2] at this
      omega), x_ofInt ha, x_ofInt hdr, Int.tdiv_eq_ediv_of_nonneg h0]
  unfold xe2
  rw [if_pos ⟨rfl, rfl⟩, e1]
theorem xrem_ex {a d : Int} (ha : yrg a) (h0 : 0 ≤ a) (hd : 0 < d) (hd2 : d ≤ 2147483647) : xe2 (fun x y => x - x / y * y) (a, a) (d, d) = (a - a / d * d, a - a / d * d) := by
  have hdr : yrg d := ⟨by omega, hd2⟩
  have e0 := xdiv_ex ha h0 hd hd2
  unfold xe2 at e0
  rw [if_pos ⟨rfl, rfl⟩] at e0
  have e1 : (Int32.ofInt a / Int32.ofInt d).toInt = a / d := congrArg Prod.fst e0
  have q0 : 0 ≤ a / d := Int.ediv_nonneg h0 (by omega)
  have q1 : a / d * d ≤ a := Int.ediv_mul_le a (by omega)
  have q2 : 0 ≤ a / d * d := Int.mul_nonneg q0 (by omega)
  have ha2 := ha.2
  have e2 : (Int32.ofInt a / Int32.ofInt d * Int32.ofInt d).toInt = a / d * d := by
    rw [Int32.toInt_mul, e1, x_ofInt hdr, x_bmod (by omega) (by omega)]
  have e3 : (Int32.ofInt a - Int32.ofInt a / Int32.ofInt d * Int32.ofInt d).toInt = a - a / d * d := by
    rw [Int32.toInt_sub, e2, x_ofInt ha, x_bmod (by omega) (by omega)]
  unfold xe2
  rw [if_pos ⟨rfl, rfl⟩, e3]
/-- the quotient of p, which is 0 or more, by d: a new symbol -/
def yquo (Y : YS) (p : YL) (d : Int) : Option YF := if ylin (yf_e Y.2.2.2).length p = true then (match yfr Y (0, 0, (match yub (yf_e Y.2.2.2) p with
    | some u => u / d
    | none => 2147483647)) with
  | some (_, K) => some (yf_e K, yadd p (-d) (ysym (yf_e Y.2.2.2).length) :: yadd (yadd (ycst (d - 1)) d (ysym (yf_e Y.2.2.2).length)) (-1) p :: yf_f K, yf_m K, yf_a K, yf_l K)
  | none => none) else none
section YI
variable {f : XS → Option XR} {J : XS → XS → Prop} {Post : Option XV × XW × Nat × Nat → Prop} {KD : Nat → Option YK} {ks : List Nat} {ow : XW → Prop} {n0 : Nat} {r0 : YR} {Y : YS} {outs : List YO}
theorem yquo_ok {w : XW} {r : YR} {lv : XL} {st : List XV} {p : YL} {d : Int} {K : YF} (hn : yquo Y p d = some K) (h1 : ylvin r Y.2.1 lv) (h2 : ystin r Y.2.2.1 st) (h3 : yknow ks w r Y.2.2.2) (hd : 0 < d) (hp : 0 ≤ yev (yi r) p) (hp2 : yev (yi r) p ≤ 2147483647) : ∃ r', yext (yf_e Y.2.2.2).length r r' ∧ (yf_e Y.2.2.2).length < (yf_e K).length ∧ ylvin r' Y.2.1 lv ∧ ystin r' Y.2.2.1 st ∧ yknow ks w r' K ∧ r' (yf_e Y.2.2.2).length = .inl (yev (yi r) p / d, yev (yi r) p / d) ∧ yev (yi r') p = yev (yi r) p := by
  unfold yquo at hn
  split at hn
  · rename_i hl
    have q0 : 0 ≤ yev (yi r) p / d := Int.ediv_nonneg hp (by omega)
    have q1 : yev (yi r) p / d ≤ 2147483647 := Int.le_trans (Int.ediv_le_self d hp) hp2
    split at hn
    · rename_i v K1 hv
      cases hn
      have he : yein ks (0, 0, (match yub (yf_e Y.2.2.2) p with
        | some u => u / d
        | none => 2147483647)) (.inl (yev (yi r) p / d, yev (yi r) p / d)) := by
        refine ⟨_, rfl, q0, ?_, by omega, q1⟩
        split
        · rename_i u hu
          exact Int.ediv_le_ediv hd (yub_ok h3.ok hu)
        · exact q1
      have hlen : (yf_e K1).length = (yf_e Y.2.2.2).length + 1 := by
        unfold yfr at hv
        split at hv
        · cases hv
          show (yf_e Y.2.2.2 ++ [_]).length = _
          rw [List.length_append]
          rfl
        · cases hv
      obtain ⟨r', c1, c2, c3, c4, c5, c6, c7⟩ := yfr_sym hv h1 h2 h3 he
      have ep : yev (yi r') p = yev (yi r) p := yev_ext c1 hl
      have eq : yi r' (yf_e Y.2.2.2).length = yev (yi r) p / d := yi_int c7
      have m1 : yev (yi r) p / d * d ≤ yev (yi r) p := Int.ediv_mul_le _ (by omega)
      have m2 : yev (yi r) p < (yev (yi r) p / d + 1) * d := Int.lt_ediv_add_one_mul_self _ hd
      have m3 : d * (yev (yi r) p / d) = yev (yi r) p / d * d := Int.mul_comm _ _
      have m4 : (yev (yi r) p / d + 1) * d = yev (yi r) p / d * d + d := by rw [Int.add_mul, Int.one_mul]
      refine ⟨r', c1, by show _ < (yf_e K1).length; omega, c3, c4, ⟨c5.1, fun g hg => ?_, c5.2.2⟩, c7, ep⟩
      rcases List.mem_cons.mp hg with hg | hg
      · rw [hg, yadd_ev, ysym_ev, ep, eq, Int.neg_mul]
        omega
      · rcases List.mem_cons.mp hg with hg | hg
        · rw [hg, yadd_ev, yadd_ev, ycst_ev, ysym_ev, ep, eq]
          omega
        · exact c5.2.1 g hg
    · cases hn
  · cases hn
/-- division: by a number above 0, of what is 0 or more; else nothing is known but that the divisor isn't 0 -/
def yh_div (rem : Bool) (Y : YS) : Option (List YO) := match Y.2.2.1 with
  | .inl q :: .inl p :: s => if (decide (q.2 = []) && (decide (0 < q.1 ∧ q.1 ≤ 2147483647) && yprv Y.2.2.2 p)) = true then (match yquo (Y.1, Y.2.1, s, Y.2.2.2) p q.1 with
      | some K => (bif rem then (match yfr (Y.1 + 1, Y.2.1, s, K) (0, 0, q.1 - 1) with
          | some (v, K2) => if ylin (yf_e K).length p = true then some [.inl (Y.1 + 1, Y.2.1, v :: s, yf_e K2, yadd (yadd p (-q.1) (ysym (yf_e Y.2.2.2).length)) (-1) (ysym (yf_e K).length) :: yneg (yadd (yadd p (-q.1) (ysym (yf_e Y.2.2.2).length)) (-1) (ysym (yf_e K).length)) :: yf_f K2, yf_m K2, yf_a K2, yf_l K2)] else none
          | none => none) else some [.inl (Y.1 + 1, Y.2.1, .inl (ysym (yf_e Y.2.2.2).length) :: s, K)])
      | none => none)
    else if (yprv Y.2.2.2 (ydf q (ycst 1) 0) || yprv Y.2.2.2 (ydf (ycst (-1)) q 0)) = true then (match yfr (Y.1, Y.2.1, s, Y.2.2.2) ytop with
      | some (v, K) => some [.inl (Y.1 + 1, Y.2.1, v :: s, K)]
      | none => none) else none
  | _ => none
theorem xh_div_at {F : Int × Int → Int × Int → Int × Int} {pc : Nat} {lv : XL} {st : List XV} {w : XW} {a d : Int} (h : 0 < d ∨ d < 0) : xh_div F pc lv (.inl (d, d) :: .inl (a, a) :: st) w 0 0 = some (.inl (pc + 1, lv, .inl (F (a, a) (d, d)) :: st, w, 0, 0)) := by
  unfold xh_div
  dsimp only
  rw [if_pos h]
theorem yo_div {rem : Bool} {F : Int × Int → Int × Int → Int × Int} (hF : F = bif rem then xe2 (fun x y => x - x / y * y) else xe2 (fun x y => x / y)) (h : yh_div rem Y = some outs) (hg : ∀ o ∈ outs, ygoodO f J Post KD ks ow n0 r0 o) : yone f J Post KD ks ow n0 r0 Y (fun lv st w => xh_div F Y.1 lv st w 0 0) := by
  unfold yh_div at h
  split at h
  · rename_i q p s hs
    intro h0 r w lv st hr h1 h2 h3 h4
    rw [hs] at h2
    obtain ⟨x1, st1, e1, a1, x2, st2, e2, a2, a3⟩ := h2
    subst e1
    subst e2
    obtain ⟨rfl, q1, q2⟩ := a1
    obtain ⟨rfl, p1, p2⟩ := a2
    split at h
    · rename_i hc
      rw [Bool.and_eq_true, Bool.and_eq_true] at hc
      have c1 := of_decide_eq_true hc.1
      obtain ⟨c2, c3⟩ := of_decide_eq_true hc.2.1
      have c4 := yprv_ok h3 hc.2.2
      have eq : yev (yi r) q = q.1 := by
        show q.1 + ysum (yi r) q.2 = q.1
        rw [c1]
        show q.1 + 0 = q.1
        omega
      split at h
      · rename_i K hK
        obtain ⟨r', d1, d2, d3, d4, d5, d6, d7⟩ := yquo_ok (Y := (Y.1, Y.2.1, s, Y.2.2.2)) hK h1 a3 h3 c2 c4 p2
        have d6 : r' (yf_e Y.2.2.2).length = .inl (yev (yi r) p / q.1, yev (yi r) p / q.1) := d6
        have q0 : 0 ≤ yev (yi r) p / q.1 := Int.ediv_nonneg c4 (by omega)
        have qs : yev (yi r) p / q.1 ≤ 2147483647 := Int.le_trans (Int.ediv_le_self q.1 c4) p2
        have m1 : yev (yi r) p / q.1 * q.1 ≤ yev (yi r) p := Int.ediv_mul_le _ (by omega)
        have m2 : yev (yi r) p < (yev (yi r) p / q.1 + 1) * q.1 := Int.lt_ediv_add_one_mul_self _ c2
        have m4 : (yev (yi r) p / q.1 + 1) * q.1 = yev (yi r) p / q.1 * q.1 + q.1 := by rw [Int.add_mul, Int.one_mul]
        cases rem with
        | false =>
          have hF : F = xe2 (fun x y => x / y) := hF
          subst hF
          cases h
          refine ⟨_, xh_div_at (by rw [eq]; exact Or.inl c2), ?_⟩
          rw [eq, xdiv_ex ⟨p1, p2⟩ c4 c2 c3]
          refine yuse (hg _ List.mem_cons_self) (by show n0 ≤ (yf_e K).length; exact Nat.le_trans h0 (Nat.le_of_lt d2)) (yext_trans hr d1 h0) rfl d3 ⟨_, _, rfl, ?_, d4⟩ d5 h4
          show _ = _ ∧ _ ∧ _
          rw [ysym_ev, yi_int d6]
          exact ⟨rfl, by omega, qs⟩
        | true =>
          have hF : F = xe2 (fun x y => x - x / y * y) := hF
          subst hF
          have h : (match yfr (Y.1 + 1, Y.2.1, s, K) (0, 0, q.1 - 1) with
            | some (v, K2) => if ylin (yf_e K).length p = true then some [(.inl (Y.1 + 1, Y.2.1, v :: s, yf_e K2, yadd (yadd p (-q.1) (ysym (yf_e Y.2.2.2).length)) (-1) (ysym (yf_e K).length) :: yneg (yadd (yadd p (-q.1) (ysym (yf_e Y.2.2.2).length)) (-1) (ysym (yf_e K).length)) :: yf_f K2, yf_m K2, yf_a K2, yf_l K2) : YO)] else none
            | none => none) = some outs := h
          split at h
          · rename_i v K2 hv
            split at h
            · rename_i hl
              cases h
              obtain ⟨r2, g1, g2, g3, g4, g5, g6, g7⟩ := yfr_sym (Y := (Y.1 + 1, Y.2.1, s, K)) (x := .inl (yev (yi r) p - yev (yi r) p / q.1 * q.1, yev (yi r) p - yev (yi r) p / q.1 * q.1)) hv d3 d4 d5 ⟨_, rfl, by omega, by omega, by omega, by omega⟩
              have g7 : r2 (yf_e K).length = .inl (yev (yi r) p - yev (yi r) p / q.1 * q.1, yev (yi r) p - yev (yi r) p / q.1 * q.1) := g7
              have g1 : yext (yf_e K).length r' r2 := g1
              have ep : yev (yi r2) p = yev (yi r) p := (yev_ext g1 hl).trans d7
              have e5 : yi r2 (yf_e Y.2.2.2).length = yev (yi r) p / q.1 := by
                have : r2 (yf_e Y.2.2.2).length = r' (yf_e Y.2.2.2).length := g1 _ d2
                exact yi_int (this.trans d6)
              have e6 : yi r2 (yf_e K).length = yev (yi r) p - yev (yi r) p / q.1 * q.1 := yi_int g7
              have e7 : yev (yi r2) (yadd (yadd p (-q.1) (ysym (yf_e Y.2.2.2).length)) (-1) (ysym (yf_e K).length)) = 0 := by
                rw [yadd_ev, yadd_ev, ysym_ev, ysym_ev, ep, e5, e6, Int.neg_mul, Int.mul_comm q.1]
                omega
              refine ⟨_, xh_div_at (by rw [eq]; exact Or.inl c2), ?_⟩
              rw [eq, xrem_ex ⟨p1, p2⟩ c4 c2 c3]
              refine yuse (hg _ List.mem_cons_self) (by show n0 ≤ (yf_e K2).length; exact Nat.le_trans h0 (Nat.le_trans (Nat.le_of_lt d2) g2)) (yext_trans (yext_trans hr d1 h0) g1 (Nat.le_trans h0 (Nat.le_of_lt d2))) rfl g3 ⟨_, _, rfl, g6, g4⟩ ⟨g5.1, fun g hg' => ?_, g5.2.2⟩ h4
              rcases List.mem_cons.mp hg' with hg' | hg'
              · rw [hg', e7]
                exact Int.le_refl _
              · rcases List.mem_cons.mp hg' with hg' | hg'
                · rw [hg', yneg_ev, e7]
                  exact Int.le_refl _
                · exact g5.2.1 g hg'
            · cases h
          · cases h
      · cases h
    · split at h
      · rename_i hc
        rw [Bool.or_eq_true] at hc
        have hnz : 0 < yev (yi r) q ∨ yev (yi r) q < 0 := by
          rcases hc with hc | hc
          · have := yprv_ok h3 hc
            rw [ydf_ev, ycst_ev] at this
            exact Or.inl (by omega)
          · have := yprv_ok h3 hc
            rw [ydf_ev, ycst_ev] at this
            exact Or.inr (by omega)
        split at h
        · rename_i v K hv
          cases h
          obtain ⟨z, z1, z2⟩ : ∃ z, F (yev (yi r) p, yev (yi r) p) (yev (yi r) q, yev (yi r) q) = (z, z) ∧ yrg z := by
            rw [hF]
            cases rem with
            | false => exact xe2_ex (fun x y => x / y) _ _
            | true => exact xe2_ex (fun x y => x - x / y * y) _ _
          obtain ⟨r', g1, g2, g3, g4, g5, g6⟩ := yfr_ok (Y := (Y.1, Y.2.1, s, Y.2.2.2)) hv h1 a3 h3 (ytop_in z2)
          refine ⟨_, xh_div_at hnz, ?_⟩
          rw [z1]
          exact yuse (hg _ List.mem_cons_self) (Nat.le_trans h0 g2) (yext_trans hr g1 h0) rfl g3 ⟨_, _, rfl, g6, g4⟩ g5 h4
        · cases h
      · cases h
  · cases h
end YI
theorem ystin_len {r : YR} : ∀ {ys : List YV} {l : List XV}, ystin r ys l → ys.length = l.length ∧ (ys.map ycat).sum = (l.map xcat).sum
  | [], l, h => by
    have h : l = [] := h
    subst h
    exact ⟨rfl, rfl⟩
  | q :: ys, _, ⟨v, l', e, h1, h2⟩ => by
    subst e
    obtain ⟨a1, a2⟩ := ystin_len h2
    refine ⟨by rw [List.length_cons, List.length_cons, a1], ?_⟩
    rw [List.map_cons, List.map_cons, List.sum_cons, List.sum_cons, a2, (ykd_ok h1).2]
/-! ===== longs: sums, divisors; a row laid into another ===== -/
theorem y_of64 {a : Int} (h : ylng a) : (Int64.ofInt a).toInt = a := by
  obtain ⟨h1, h2⟩ := h
  rw [Int64.toInt_ofInt, show (Int64.size : Nat) = 18446744073709551616 from rfl, Int.bmod_eq_of_le (by omega) (by omega)]
theorem y_add64 {a b : Int} (ha : ylng a) (hb : ylng b) (h : ylng (a + 1 * b)) : (Int64.ofInt a + Int64.ofInt b).toInt = a + 1 * b := by
  obtain ⟨h1, h2⟩ := h
  rw [Int64.toInt_add, y_of64 ha, y_of64 hb, Int.bmod_eq_of_le (by omega) (by omega), Int.one_mul]
theorem y_sub64 {a b : Int} (ha : ylng a) (hb : ylng b) (h : ylng (a + -1 * b)) : (Int64.ofInt a - Int64.ofInt b).toInt = a + -1 * b := by
  obtain ⟨h1, h2⟩ := h
  rw [Int64.toInt_sub, y_of64 ha, y_of64 hb, Int.bmod_eq_of_le (by omega) (by omega)]
  omega
theorem y_nz64 {x : Int64} (h : x.toInt = 0) : x = 0 := Int64.toInt_inj.mp (h.trans rfl)
theorem y_or64 {a b : Int} (ha : ylng a) (hb : ylng b) (h : a ≠ 0 ∨ b ≠ 0) : (Int64.ofInt a ||| Int64.ofInt b).toInt ≠ 0 := fun e => by
  have e1 := y_nz64 e
  have e2 : (Int64.ofInt a).toBitVec ||| (Int64.ofInt b).toBitVec = 0#64 := by
    rw [← Int64.toBitVec_or, e1]
    rfl
  have e3 := BitVec.or_eq_zero_iff.mp e2
  rcases h with h | h
  · have : Int64.ofInt a = 0 := Int64.toBitVec_inj.mp e3.1
    have e4 := y_of64 ha
    rw [this] at e4
    exact h e4.symm
  · have : Int64.ofInt b = 0 := Int64.toBitVec_inj.mp e3.2
    have e4 := y_of64 hb
    rw [this] at e4
    exact h e4.symm
theorem y_63 (s : Int64) : ∃ k : Nat, k < 64 ∧ s &&& 63 = Int64.ofNat k := by
  refine ⟨(s.toBitVec &&& 63#64).toNat, ?_, ?_⟩
  · rw [BitVec.toNat_and]
    exact Nat.lt_of_le_of_lt Nat.and_le_right (by decide)
  · apply Int64.toBitVec_inj.mp
    rw [Int64.toBitVec_and]
    show _ = BitVec.ofNat 64 _
    rw [BitVec.ofNat_toNat]
    simp
theorem y_shl64 (y : Int32) : ((1 : Int64) <<< (y.toInt64 &&& 63)).toInt ≠ 0 := by
  obtain ⟨k, hk, e⟩ := y_63 y.toInt64
  rw [e]
  have : ∀ k : Nat, k < 64 → ((1 : Int64) <<< Int64.ofNat k).toInt ≠ 0 := by decide +kernel
  exact this k hk
theorem ylnz_in {ks : List Nat} {z : Int} (h : ylng z) (h0 : z ≠ 0) : yein ks (2, 1, 0) (.inr (.inl (some z))) := ⟨z, rfl, h, (fun _ => h0), fun h => by cases h⟩
theorem yeck_nz {ks : List Nat} {w : XW} {r : YR} {K : YF} (h : yknow ks w r K) {x : YL} (hl : ylng (yev (yi r) x)) (hc : yeck K (2, 1, 0) (.inr (.inl x)) = true) : yev (yi r) x ≠ 0 := by
  obtain ⟨z, e1, _, e3, _⟩ := yeck_ok h (v := .inr (.inl x)) (x := .inr (.inl (some (yev (yi r) x)))) ⟨rfl, hl⟩ hc
  have : yev (yi r) x = z := by
    injection e1 with e1
    injection e1 with e1
    injection e1
  rw [this]
  exact e3 rfl
section YI
variable {f : XS → Option XR} {J : XS → XS → Prop} {Post : Option XV × XW × Nat × Nat → Prop} {KD : Nat → Option YK} {ks : List Nat} {ow : XW → Prop} {n0 : Nat} {r0 : YR} {Y : YS} {outs : List YO}
def yh_ladd (g : Int64 → Int64 → Int64) (k : Int) (Y : YS) : Option (List YO) := match Y.2.2.1 with
  | .inr (.inl q) :: .inr (.inl p) :: s => if ¬ (q.2 = [] ∧ p.2 = []) ∧ (yprv Y.2.2.2 (yadd (yadd p k q) 1 (ycst 9223372036854775808)) && yprv Y.2.2.2 (ydf (ycst 9223372036854775807) (yadd p k q) 0)) = true then some [.inl (Y.1 + 1, Y.2.1, .inr (.inl (yadd p k q)) :: s, Y.2.2.2)] else yh_lbin g Y
  | _ => none
theorem yo_ladd {g : Int64 → Int64 → Int64} {k : Int} (hgk : ∀ a b : Int, ylng a → ylng b → ylng (a + k * b) → (g (Int64.ofInt a) (Int64.ofInt b)).toInt = a + k * b) (h : yh_ladd g k Y = some outs) (hg : ∀ o ∈ outs, ygoodO f J Post KD ks ow n0 r0 o) : yone f J Post KD ks ow n0 r0 Y (fun lv st w => xh_lbin (xl2 g) Y.1 lv st w 0 0) := by
  unfold yh_ladd at h
  split at h
  · rename_i q p s hs
    split at h
    · rename_i hc
      obtain ⟨_, hc⟩ := hc
      rw [Bool.and_eq_true] at hc
      cases h
      intro h0 r w lv st hr h1 h2 h3 h4
      rw [hs] at h2
      obtain ⟨x1, st1, e1, ⟨a1, b1⟩, x2, st2, e2, ⟨a2, b2⟩, a3⟩ := h2
      subst e1
      subst e2
      subst a1
      subst a2
      have c1 := yprv_ok h3 hc.1
      have c2 := yprv_ok h3 hc.2
      rw [yadd_ev, yadd_ev, ycst_ev] at c1
      rw [ydf_ev, yadd_ev, ycst_ev] at c2
      have hl : ylng (yev (yi r) p + k * yev (yi r) q) := ⟨by omega, by omega⟩
      have e3 := hgk _ _ b2 b1 hl
      refine ⟨.inl (Y.1 + 1, lv, .inr (.inl (some (g (Int64.ofInt (yev (yi r) p)) (Int64.ofInt (yev (yi r) q))).toInt)) :: st2, w, 0, 0), rfl, yuse (hg _ List.mem_cons_self) h0 hr rfl h1 ⟨_, _, rfl, ?_, a3⟩ h3 h4⟩
      show _ = _ ∧ ylng _
      rw [e3, yadd_ev]
      exact ⟨rfl, hl⟩
    · exact yo_lbin h hg
  · cases h
def yh_lor (Y : YS) : Option (List YO) := match Y.2.2.1 with
  | .inr (.inl q) :: .inr (.inl p) :: s => if ¬ (q.2 = [] ∧ p.2 = []) ∧ (yeck Y.2.2.2 (2, 1, 0) (.inr (.inl q)) || yeck Y.2.2.2 (2, 1, 0) (.inr (.inl p))) = true then (match yfr (Y.1, Y.2.1, s, Y.2.2.2) (2, 1, 0) with
    | some (v, K) => some [.inl (Y.1 + 1, Y.2.1, v :: s, K)]
    | none => none) else yh_lbin (fun x y => x ||| y) Y
  | _ => none
theorem yo_lor (h : yh_lor Y = some outs) (hg : ∀ o ∈ outs, ygoodO f J Post KD ks ow n0 r0 o) : yone f J Post KD ks ow n0 r0 Y (fun lv st w => xh_lbin (xl2 (fun x y => x ||| y)) Y.1 lv st w 0 0) := by
  unfold yh_lor at h
  split at h
  · rename_i q p s hs
    split at h
    · rename_i hc
      obtain ⟨_, hc⟩ := hc
      rw [Bool.or_eq_true] at hc
      split at h
      · rename_i v K hv
        cases h
        intro h0 r w lv st hr h1 h2 h3 h4
        rw [hs] at h2
        obtain ⟨x1, st1, e1, ⟨a1, b1⟩, x2, st2, e2, ⟨a2, b2⟩, a3⟩ := h2
        subst e1
        subst e2
        subst a1
        subst a2
        have hnz := y_or64 b2 b1 (by
          rcases hc with hc | hc
          · exact Or.inr (yeck_nz h3 b1 hc)
          · exact Or.inl (yeck_nz h3 b2 hc))
        obtain ⟨r', c1, c2, c3, c4, c5, c6⟩ := yfr_ok (Y := (Y.1, Y.2.1, s, Y.2.2.2)) hv h1 a3 h3 (ylnz_in (ylng_64 (Int64.ofInt (yev (yi r) p) ||| Int64.ofInt (yev (yi r) q))) hnz)
        exact ⟨_, rfl, yuse (hg _ List.mem_cons_self) (Nat.le_trans h0 c2) (yext_trans hr c1 h0) rfl c3 ⟨_, _, rfl, c6, c4⟩ c5 h4⟩
      · cases h
    · exact yo_lbin h hg
  · cases h
def yh_lshl (Y : YS) : Option (List YO) := match Y.2.2.1 with
  | .inl q :: .inr (.inl p) :: s => if p = ycst 1 ∧ q.2 ≠ [] then (match yfr (Y.1, Y.2.1, s, Y.2.2.2) (2, 1, 0) with
    | some (v, K) => some [.inl (Y.1 + 1, Y.2.1, v :: s, K)]
    | none => none) else yh_lsh (fun x y => x <<< (y.toInt64 &&& 63)) Y
  | _ => none
theorem yo_lshl (h : yh_lshl Y = some outs) (hg : ∀ o ∈ outs, ygoodO f J Post KD ks ow n0 r0 o) : yone f J Post KD ks ow n0 r0 Y (fun lv st w => xh_lsh (xls (fun x y => x <<< (y.toInt64 &&& 63))) Y.1 lv st w 0 0) := by
  unfold yh_lshl at h
  split at h
  · rename_i q p s hs
    split at h
    · rename_i hc
      split at h
      · rename_i v K hv
        cases h
        intro h0 r w lv st hr h1 h2 h3 h4
        rw [hs] at h2
        obtain ⟨x1, st1, e1, a1, x2, st2, e2, a2, a3⟩ := h2
        subst e1
        subst e2
        obtain ⟨rfl, _⟩ := a1
        obtain ⟨rfl, _⟩ := a2
        have e3 : Int64.ofInt (yev (yi r) p) = 1 := by
          rw [hc.1, ycst_ev]
          rfl
        obtain ⟨r', c1, c2, c3, c4, c5, c6⟩ := yfr_ok (Y := (Y.1, Y.2.1, s, Y.2.2.2)) hv h1 a3 h3 (ylnz_in (ylng_64 (Int64.ofInt (yev (yi r) p) <<< ((Int32.ofInt (yev (yi r) q)).toInt64 &&& 63))) (by rw [e3]; exact y_shl64 _))
        refine ⟨_, ?_, yuse (hg _ List.mem_cons_self) (Nat.le_trans h0 c2) (yext_trans hr c1 h0) rfl c3 ⟨_, _, rfl, c6, c4⟩ c5 h4⟩
        show some (Sum.inl (Y.1 + 1, lv, Sum.inr (Sum.inl (xls (fun x y => x <<< (y.toInt64 &&& 63)) (some (yev (yi r) p)) (yev (yi r) q, yev (yi r) q))) :: st2, w, 0, 0)) = _
        rw [xls_ex]
      · cases h
    · exact yo_lsh h hg
  · cases h
def yh_ldiv (Y : YS) : Option (List YO) := match Y.2.2.1 with
  | .inr (.inl q) :: .inr (.inl _) :: s => if yeck Y.2.2.2 (2, 1, 0) (.inr (.inl q)) = true then (match yfr (Y.1, Y.2.1, s, Y.2.2.2) ylany with
    | some (v, K) => some [.inl (Y.1 + 1, Y.2.1, v :: s, K)]
    | none => none) else none
  | _ => none
theorem yo_ldiv {g : Int64 → Int64 → Int64} (h : yh_ldiv Y = some outs) (hg : ∀ o ∈ outs, ygoodO f J Post KD ks ow n0 r0 o) : yone f J Post KD ks ow n0 r0 Y (fun lv st w => xh_ldiv (xl2 g) Y.1 lv st w 0 0) := by
  unfold yh_ldiv at h
  split at h
  · rename_i q p s hs
    split at h
    · rename_i hc
      split at h
      · rename_i v K hv
        cases h
        intro h0 r w lv st hr h1 h2 h3 h4
        rw [hs] at h2
        obtain ⟨x1, st1, e1, ⟨a1, b1⟩, x2, st2, e2, ⟨a2, b2⟩, a3⟩ := h2
        subst e1
        subst e2
        subst a1
        subst a2
        have hnz := yeck_nz h3 b1 hc
        obtain ⟨r', c1, c2, c3, c4, c5, c6⟩ := yfr_ok (Y := (Y.1, Y.2.1, s, Y.2.2.2)) hv h1 a3 h3 (ylany_in (ylng_64 (g (Int64.ofInt (yev (yi r) p)) (Int64.ofInt (yev (yi r) q)))))
        refine ⟨_, ?_, yuse (hg _ List.mem_cons_self) (Nat.le_trans h0 c2) (yext_trans hr c1 h0) rfl c3 ⟨_, _, rfl, c6, c4⟩ c5 h4⟩
        show xh_ldiv (xl2 g) Y.1 lv (.inr (.inl (some (yev (yi r) q))) :: .inr (.inl (some (yev (yi r) p))) :: st2) w 0 0 = _
        unfold xh_ldiv
        dsimp only
        rw [if_pos hnz]
        rfl
      · cases h
    · cases h
  · cases h
theorem yheap0_setl {w : XW} (h : yheap0 KD ks w) {i k : Nat} (hk : ks[i]? = some k) {t n : Nat} {ea : List YE} (hd : KD k = some (.inr (t, n, ea))) {es es' : List XV} (hw : w[i]? = some (.inr (t, es))) (hl : es'.length = n) (hv : ∀ (j : Nat) (v : XV), es'[j]? = some v → yany ks ea v) : yheap0 KD ks (w.set i (.inr (t, es'))) := by
  have hi : i < w.length := (List.getElem?_eq_some_iff.mp hw).1
  refine ⟨by rw [List.length_set]; exact h.1, fun j' k' hk' => ?_⟩
  by_cases hj : i = j'
  · subst hj
    rw [hk] at hk'
    cases hk'
    exact ⟨_, _, hd, List.getElem?_set_self hi, rfl, hl, hv⟩
  · obtain ⟨d, c, h1, h2, h3⟩ := h.2 j' k' hk'
    exact ⟨d, c, h1, by rw [List.getElem?_set_ne hj]; exact h2, h3⟩
/-- what is known behind a change of a whole array: of others all -/
def ychr (k : Nat) (K : YF) : YF := (yf_e K, yf_f K, (yf_m K).filter (fun q => decide (q.1.2 < 100)), (yf_a K).filter (fun q => match (yf_e K)[q.1.1]? with
  | some (1, k', _) => decide (k'.toNat ≠ k)
  | some (0, _, _) => true
  | some (2, _, _) => true
  | _ => false), yf_l K)
theorem ychr_ok {w : XW} {r : YR} {K : YF} (h : yknow ks w r K) {i t k : Nat} {es es' : List XV} (hk : ks[i]? = some k) (hw : w[i]? = some (.inr (t, es))) : yknow ks (w.set i (.inr (t, es'))) r (ychr k K) := by
  obtain ⟨h1, h2, h3, h4, h5⟩ := h
  refine ⟨h1, h2, fun q hq => ?_, fun q hq => ?_, h5⟩
  · obtain ⟨q1, q2⟩ := List.mem_filter.mp hq
    obtain ⟨y, b1, b4⟩ := h3 q q1
    refine ⟨y, ?_, b4⟩
    have q4 := of_decide_eq_true q2
    obtain ⟨i', c', fs', e1, e2, e3⟩ := ygf_lt q4 b1
    have hii : i ≠ i' := fun e => by
      subst e
      rw [hw] at e2
      cases e2
    exact ygf_mk e1 q4 (by rw [List.getElem?_set_ne hii]; exact e2) e3
  · obtain ⟨q1, q2⟩ := List.mem_filter.mp hq
    obtain ⟨y, b1, b2⟩ := h4 q q1
    refine ⟨y, yga_of b1 (fun i' a e1 e2 => ?_), b2⟩
    have hii : i ≠ i' := fun e => by
      subst e
      split at q2
      · rename_i k' n' he
        have q3 := of_decide_eq_true q2
        rcases h1 q.1.1 _ he with ⟨_, e3⟩ | ⟨i2, e3, e4⟩
        · rw [e1] at e3
          cases e3
        · rw [e1] at e3
          cases e3
          rw [hk] at e4
          exact q3 (Option.some.inj e4).symm
      · rename_i he
        obtain ⟨z, e3, _⟩ := h1 q.1.1 _ he
        rw [e1] at e3
        cases e3
      · rename_i he
        obtain ⟨z, e3, _⟩ := h1 q.1.1 _ he
        rw [e1] at e3
        cases e3
      · cases q2
    rw [List.getElem?_set_ne hii]
    exact e2
def yh_cpy (KD : Nat → Option YK) (pu : Nat) (M : XM) (Y : YS) : Option (List YO) := match Y.2.2.1 with
  | .inl c :: .inl j :: .inr (.inr (0, d)) :: .inl i :: .inr (.inr (0, s)) :: t => (match (yf_e Y.2.2.2)[s]?, (yf_e Y.2.2.2)[d]? with
    | some (1, k, n), some (1, k', n') => (match KD k.toNat, KD k'.toNat with
      | some (.inr (t1, m, ea)), some (.inr (t2, m', ea')) => if t1 = 0 ∧ t2 = 0 ∧ n ≠ 1 ∧ n' ≠ 1 ∧ ea = ea' ∧ 1 ≤ xm_f M ∧ (t.map ycat).sum + 18 ≤ xm_o M ∧ (yprv Y.2.2.2 c && (yprv Y.2.2.2 j && (yprv Y.2.2.2 i && (yprv Y.2.2.2 (ydf (ydf (ycst (m : Int)) i 0) c 0) && (yprv Y.2.2.2 (ydf (ydf (ycst (m' : Int)) j 0) c 0) && (ypm pu k'.toNat && ypa k'.toNat)))))) = true then some [.inl (Y.1 + 3, Y.2.1, t, ychr k'.toNat Y.2.2.2)] else none
      | _, _ => none)
    | _, _ => none)
  | _ => none
theorem yo_cpy {pu : Nat} {M : XM} (ho : ymd pu ks ow) (h : yh_cpy KD pu M Y = some outs) (hg : ∀ o ∈ outs, ygoodO f J Post KD ks ow n0 r0 o) : yone f J Post KD ks ow n0 r0 Y (fun lv st w => xh_cpy M Y.1 lv st w 0 0) := by
  unfold yh_cpy at h
  split at h
  · rename_i c j d i s t hs
    split at h
    · rename_i k n k' n' he he'
      split at h
      · rename_i t1 m ea t2 m' ea' hd hd'
        split at h
        · rename_i hc
          obtain ⟨rfl, rfl, hn, hn', rfl, hf, ho2, hp⟩ := hc
          rw [Bool.and_eq_true, Bool.and_eq_true, Bool.and_eq_true, Bool.and_eq_true, Bool.and_eq_true, Bool.and_eq_true] at hp
          obtain ⟨p1, p2, p3, p4, p5, p6, p7⟩ := hp
          cases h
          intro h0 r w lv st hr h1 h2 h3 h4
          rw [hs] at h2
          obtain ⟨x1, st1, e1, ⟨a1, _⟩, x2, st2, e2, ⟨a2, _⟩, x3, st3, e3, ⟨a3, _⟩, x4, st4, e4, ⟨a4, _⟩, x5, st5, e5, ⟨a5, _⟩, a6⟩ := h2
          subst e1
          subst e2
          subst e3
          subst e4
          subst e5
          obtain ⟨is, vs, ks1⟩ := (h3.1 s _ he).resolve_left (fun hh => hn hh.1)
          obtain ⟨id, vd, kd1⟩ := (h3.1 d _ he').resolve_left (fun hh => hn' hh.1)
          rw [vs] at a5
          rw [vd] at a3
          subst a1
          subst a2
          subst a3
          subst a4
          subst a5
          obtain ⟨es, w1, w2, w3⟩ := yheap_a h4.1 ks1 hd
          obtain ⟨ed, v1, v2, v3⟩ := yheap_a h4.1 kd1 hd'
          have q1 := yprv_ok h3 p1
          have q2 := yprv_ok h3 p2
          have q3 := yprv_ok h3 p3
          have q4 := yprv_ok h3 p4
          have q5 := yprv_ok h3 p5
          rw [ydf_ev, ydf_ev, ycst_ev] at q4 q5
          have l1 : (yev (yi r) i).toNat + (yev (yi r) c).toNat ≤ es.length := by omega
          have l2 : (yev (yi r) j).toNat + (yev (yi r) c).toNat ≤ ed.length := by omega
          obtain ⟨z1, z2⟩ := xcpy_at l1 l2
          refine ⟨.inl (Y.1 + 3, lv, st5, w.set id (.inr (0, xcpy es ed (yev (yi r) i).toNat (yev (yi r) j).toNat (yev (yi r) c).toNat)), 0, 0), ?_, yuse (hg _ List.mem_cons_self) h0 hr rfl h1 a6 (ychr_ok h3 kd1 v1) ⟨⟨yheap0_setl h4.1.1 kd1 hd' v1 (z1.trans v2) (fun q y hy => ?_), ysp_seta h4.1.2 kd1 v1 p7⟩, ymd_set ho p6 kd1 h4.2⟩⟩
          · show xh_cpy M Y.1 lv (.inl (yev (yi r) c, yev (yi r) c) :: .inl (yev (yi r) j, yev (yi r) j) :: .inr (.inr (1, id)) :: .inl (yev (yi r) i, yev (yi r) i) :: .inr (.inr (1, is)) :: st5) w 0 0 = _
            unfold xh_cpy
            dsimp only
            rw [if_pos ⟨rfl, rfl, rfl, rfl, rfl, q1, q2, q3, hf, by rw [← (ystin_len a6).2]; exact ho2⟩, w1, v1]
            show (if (yev (yi r) i).toNat + (yev (yi r) c).toNat ≤ es.length ∧ (yev (yi r) j).toNat + (yev (yi r) c).toNat ≤ ed.length then some (Sum.inl (Y.1 + 3, lv, st5, w.set id (.inr (0, xcpy es ed (yev (yi r) i).toNat (yev (yi r) j).toNat (yev (yi r) c).toNat)), 0, 0)) else none) = _
            rw [if_pos ⟨l1, l2⟩]
          · rcases z2 q y hy with ⟨_, _, z3⟩ | ⟨_, z3⟩
            · exact w3 _ y z3
            · exact v3 _ y z3
        · cases h
      · cases h
    · cases h
  · cases h
end YI
