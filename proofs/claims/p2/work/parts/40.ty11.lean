/-! ===== typed steps: division by a number ===== -/
theorem xdiv_ex {a d : Int} (ha : yrg a) (h0 : 0 ≤ a) (hd : 0 < d) (hd2 : d ≤ 2147483647) : xe2 (fun x y => x / y) (a, a) (d, d) = (a / d, a / d) := by
  have hdr : yrg d := ⟨by omega, hd2⟩
  have e1 : (Int32.ofInt a / Int32.ofInt d).toInt = a / d := by
    rw [Int32.toInt_div_of_ne_right _ _ (by
      intro h
      have := x_ofInt hdr
      rw [h] at this
      have h2 : (-1 : Int32).toInt = -1 := by decide
      rw [h2] at this
      omega), x_ofInt ha, x_ofInt hdr, Int.tdiv_eq_ediv_of_nonneg h0]
  unfold xe2
  rw [if_pos ⟨rfl, rfl⟩, e1]
theorem xrem_ex {a d : Int} (ha : yrg a) (h0 : 0 ≤ a) (hd : 0 < d) (hd2 : d ≤ 2147483647) : xe2 (fun x y => x - x / y * y) (a, a) (d, d) = (a - a / d * d, a - a / d * d) := by
  have hdr : yrg d := ⟨by omega, hd2⟩
  have e0 := xdiv_ex ha h0 hd hd2
  unfold xe2 at e0
  rw [if_pos ⟨rfl, rfl⟩] at e0
  have e1 : (Int32.ofInt a / Int32.ofInt d).toInt = a / d := congrArg Prod.fst e0
  have q0 : 0 ≤ a / d := Int.ediv_nonneg h0 (by omega)
  have q1 : a / d * d ≤ a := Int.ediv_mul_le a (by omega)
  have q2 : 0 ≤ a / d * d := Int.mul_nonneg q0 (by omega)
  have ha2 := ha.2
  have e2 : (Int32.ofInt a / Int32.ofInt d * Int32.ofInt d).toInt = a / d * d := by
    rw [Int32.toInt_mul, e1, x_ofInt hdr, x_bmod (by omega) (by omega)]
  have e3 : (Int32.ofInt a - Int32.ofInt a / Int32.ofInt d * Int32.ofInt d).toInt = a - a / d * d := by
    rw [Int32.toInt_sub, e2, x_ofInt ha, x_bmod (by omega) (by omega)]
  unfold xe2
  rw [if_pos ⟨rfl, rfl⟩, e3]
/-- the quotient of p, which is 0 or more, by d: a new symbol -/
def yquo (Y : YS) (p : YL) (d : Int) : Option YF := if ylin (yf_e Y.2.2.2).length p = true then (match yfr Y (0, 0, (match yub (yf_e Y.2.2.2) p with
    | some u => u / d
    | none => 2147483647)) with
  | some (_, K) => some (yf_e K, yadd p (-d) (ysym (yf_e Y.2.2.2).length) :: yadd (yadd (ycst (d - 1)) d (ysym (yf_e Y.2.2.2).length)) (-1) p :: yf_f K, yf_m K, yf_a K, yf_l K)
  | none => none) else none
section YI
variable {f : XS → Option XR} {J : XS → XS → Prop} {Post : Option XV × XW × Nat × Nat → Prop} {KD : Nat → Option YK} {ks : List Nat} {ow : XW → Prop} {n0 : Nat} {r0 : YR} {Y : YS} {outs : List YO}
theorem yquo_ok {w : XW} {r : YR} {lv : XL} {st : List XV} {p : YL} {d : Int} {K : YF} (hn : yquo Y p d = some K) (h1 : ylvin r Y.2.1 lv) (h2 : ystin r Y.2.2.1 st) (h3 : yknow ks w r Y.2.2.2) (hd : 0 < d) (hp : 0 ≤ yev (yi r) p) (hp2 : yev (yi r) p ≤ 2147483647) : ∃ r', yext (yf_e Y.2.2.2).length r r' ∧ (yf_e Y.2.2.2).length < (yf_e K).length ∧ ylvin r' Y.2.1 lv ∧ ystin r' Y.2.2.1 st ∧ yknow ks w r' K ∧ r' (yf_e Y.2.2.2).length = .inl (yev (yi r) p / d, yev (yi r) p / d) ∧ yev (yi r') p = yev (yi r) p := by
  unfold yquo at hn
  split at hn
  · rename_i hl
    have q0 : 0 ≤ yev (yi r) p / d := Int.ediv_nonneg hp (by omega)
    have q1 : yev (yi r) p / d ≤ 2147483647 := Int.le_trans (Int.ediv_le_self d hp) hp2
    split at hn
    · rename_i v K1 hv
      cases hn
      have he : yein ks (0, 0, (match yub (yf_e Y.2.2.2) p with
        | some u => u / d
        | none => 2147483647)) (.inl (yev (yi r) p / d, yev (yi r) p / d)) := by
        refine ⟨_, rfl, q0, ?_, by omega, q1⟩
        split
        · rename_i u hu
          exact Int.ediv_le_ediv hd (yub_ok h3.ok hu)
        · exact q1
      have hlen : (yf_e K1).length = (yf_e Y.2.2.2).length + 1 := by
        unfold yfr at hv
        split at hv
        · cases hv
          show (yf_e Y.2.2.2 ++ [_]).length = _
          rw [List.length_append]
          rfl
        · cases hv
      obtain ⟨r', c1, c2, c3, c4, c5, c6, c7⟩ := yfr_sym hv h1 h2 h3 he
      have ep : yev (yi r') p = yev (yi r) p := yev_ext c1 hl
      have eq : yi r' (yf_e Y.2.2.2).length = yev (yi r) p / d := yi_int c7
      have m1 : yev (yi r) p / d * d ≤ yev (yi r) p := Int.ediv_mul_le _ (by omega)
      have m2 : yev (yi r) p < (yev (yi r) p / d + 1) * d := Int.lt_ediv_add_one_mul_self _ hd
      have m3 : d * (yev (yi r) p / d) = yev (yi r) p / d * d := Int.mul_comm _ _
      have m4 : (yev (yi r) p / d + 1) * d = yev (yi r) p / d * d + d := by rw [Int.add_mul, Int.one_mul]
      refine ⟨r', c1, by show _ < (yf_e K1).length; omega, c3, c4, ⟨c5.1, fun g hg => ?_, c5.2.2⟩, c7, ep⟩
      rcases List.mem_cons.mp hg with hg | hg
      · rw [hg, yadd_ev, ysym_ev, ep, eq, Int.neg_mul]
        omega
      · rcases List.mem_cons.mp hg with hg | hg
        · rw [hg, yadd_ev, yadd_ev, ycst_ev, ysym_ev, ep, eq]
          omega
        · exact c5.2.1 g hg
    · cases hn
  · cases hn
/-- division: by a number above 0, of what is 0 or more; else nothing is known but that the divisor isn't 0 -/
def yh_div (rem : Bool) (Y : YS) : Option (List YO) := match Y.2.2.1 with
  | .inl q :: .inl p :: s => if (decide (q.2 = []) && (decide (0 < q.1 ∧ q.1 ≤ 2147483647) && yprv Y.2.2.2 p)) = true then (match yquo (Y.1, Y.2.1, s, Y.2.2.2) p q.1 with
      | some K => (bif rem then (match yfr (Y.1 + 1, Y.2.1, s, K) (0, 0, q.1 - 1) with
          | some (v, K2) => if ylin (yf_e K).length p = true then some [.inl (Y.1 + 1, Y.2.1, v :: s, yf_e K2, yadd (yadd p (-q.1) (ysym (yf_e Y.2.2.2).length)) (-1) (ysym (yf_e K).length) :: yneg (yadd (yadd p (-q.1) (ysym (yf_e Y.2.2.2).length)) (-1) (ysym (yf_e K).length)) :: yf_f K2, yf_m K2, yf_a K2, yf_l K2)] else none
          | none => none) else some [.inl (Y.1 + 1, Y.2.1, .inl (ysym (yf_e Y.2.2.2).length) :: s, K)])
      | none => none)
    else if (yprv Y.2.2.2 (ydf q (ycst 1) 0) || yprv Y.2.2.2 (ydf (ycst (-1)) q 0)) = true then (match yfr (Y.1, Y.2.1, s, Y.2.2.2) ytop with
      | some (v, K) => some [.inl (Y.1 + 1, Y.2.1, v :: s, K)]
      | none => none) else none
  | _ => none
theorem xh_div_at {F : Int × Int → Int × Int → Int × Int} {pc : Nat} {lv : XL} {st : List XV} {w : XW} {a d : Int} (h : 0 < d ∨ d < 0) : xh_div F pc lv (.inl (d, d) :: .inl (a, a) :: st) w 0 0 = some (.inl (pc + 1, lv, .inl (F (a, a) (d, d)) :: st, w, 0, 0)) := by
  unfold xh_div
  dsimp only
  rw [if_pos h]
theorem yo_div {rem : Bool} {F : Int × Int → Int × Int → Int × Int} (hF : F = bif rem then xe2 (fun x y => x - x / y * y) else xe2 (fun x y => x / y)) (h : yh_div rem Y = some outs) (hg : ∀ o ∈ outs, ygoodO f J Post KD ks ow n0 r0 o) : yone f J Post KD ks ow n0 r0 Y (fun lv st w => xh_div F Y.1 lv st w 0 0) := by
  unfold yh_div at h
  split at h
  · rename_i q p s hs
    intro h0 r w lv st hr h1 h2 h3 h4
    rw [hs] at h2
    obtain ⟨x1, st1, e1, a1, x2, st2, e2, a2, a3⟩ := h2
    subst e1
    subst e2
    obtain ⟨rfl, q1, q2⟩ := a1
    obtain ⟨rfl, p1, p2⟩ := a2
    split at h
    · rename_i hc
      rw [Bool.and_eq_true, Bool.and_eq_true] at hc
      have c1 := of_decide_eq_true hc.1
      obtain ⟨c2, c3⟩ := of_decide_eq_true hc.2.1
      have c4 := yprv_ok h3 hc.2.2
      have eq : yev (yi r) q = q.1 := by
        show q.1 + ysum (yi r) q.2 = q.1
        rw [c1]
        show q.1 + 0 = q.1
        omega
      split at h
      · rename_i K hK
        obtain ⟨r', d1, d2, d3, d4, d5, d6, d7⟩ := yquo_ok (Y := (Y.1, Y.2.1, s, Y.2.2.2)) hK h1 a3 h3 c2 c4 p2
        have d6 : r' (yf_e Y.2.2.2).length = .inl (yev (yi r) p / q.1, yev (yi r) p / q.1) := d6
        have q0 : 0 ≤ yev (yi r) p / q.1 := Int.ediv_nonneg c4 (by omega)
        have qs : yev (yi r) p / q.1 ≤ 2147483647 := Int.le_trans (Int.ediv_le_self q.1 c4) p2
        have m1 : yev (yi r) p / q.1 * q.1 ≤ yev (yi r) p := Int.ediv_mul_le _ (by omega)
        have m2 : yev (yi r) p < (yev (yi r) p / q.1 + 1) * q.1 := Int.lt_ediv_add_one_mul_self _ c2
        have m4 : (yev (yi r) p / q.1 + 1) * q.1 = yev (yi r) p / q.1 * q.1 + q.1 := by rw [Int.add_mul, Int.one_mul]
        cases rem with
        | false =>
          have hF : F = xe2 (fun x y => x / y) := hF
          subst hF
          cases h
          refine ⟨_, xh_div_at (by rw [eq]; exact Or.inl c2), ?_⟩
          rw [eq, xdiv_ex ⟨p1, p2⟩ c4 c2 c3]
          refine yuse (hg _ List.mem_cons_self) (by show n0 ≤ (yf_e K).length; exact Nat.le_trans h0 (Nat.le_of_lt d2)) (yext_trans hr d1 h0) rfl d3 ⟨_, _, rfl, ?_, d4⟩ d5 h4
          show _ = _ ∧ _ ∧ _
          rw [ysym_ev, yi_int d6]
          exact ⟨rfl, by omega, qs⟩
        | true =>
          have hF : F = xe2 (fun x y => x - x / y * y) := hF
          subst hF
          have h : (match yfr (Y.1 + 1, Y.2.1, s, K) (0, 0, q.1 - 1) with
            | some (v, K2) => if ylin (yf_e K).length p = true then some [(.inl (Y.1 + 1, Y.2.1, v :: s, yf_e K2, yadd (yadd p (-q.1) (ysym (yf_e Y.2.2.2).length)) (-1) (ysym (yf_e K).length) :: yneg (yadd (yadd p (-q.1) (ysym (yf_e Y.2.2.2).length)) (-1) (ysym (yf_e K).length)) :: yf_f K2, yf_m K2, yf_a K2, yf_l K2) : YO)] else none
            | none => none) = some outs := h
          split at h
          · rename_i v K2 hv
            split at h
            · rename_i hl
              cases h
              obtain ⟨r2, g1, g2, g3, g4, g5, g6, g7⟩ := yfr_sym (Y := (Y.1 + 1, Y.2.1, s, K)) (x := .inl (yev (yi r) p - yev (yi r) p / q.1 * q.1, yev (yi r) p - yev (yi r) p / q.1 * q.1)) hv d3 d4 d5 ⟨_, rfl, by omega, by omega, by omega, by omega⟩
              have g7 : r2 (yf_e K).length = .inl (yev (yi r) p - yev (yi r) p / q.1 * q.1, yev (yi r) p - yev (yi r) p / q.1 * q.1) := g7
              have g1 : yext (yf_e K).length r' r2 := g1
              have ep : yev (yi r2) p = yev (yi r) p := (yev_ext g1 hl).trans d7
              have e5 : yi r2 (yf_e Y.2.2.2).length = yev (yi r) p / q.1 := by
                have : r2 (yf_e Y.2.2.2).length = r' (yf_e Y.2.2.2).length := g1 _ d2
                exact yi_int (this.trans d6)
              have e6 : yi r2 (yf_e K).length = yev (yi r) p - yev (yi r) p / q.1 * q.1 := yi_int g7
              have e7 : yev (yi r2) (yadd (yadd p (-q.1) (ysym (yf_e Y.2.2.2).length)) (-1) (ysym (yf_e K).length)) = 0 := by
                rw [yadd_ev, yadd_ev, ysym_ev, ysym_ev, ep, e5, e6, Int.neg_mul, Int.mul_comm q.1]
                omega
              refine ⟨_, xh_div_at (by rw [eq]; exact Or.inl c2), ?_⟩
              rw [eq, xrem_ex ⟨p1, p2⟩ c4 c2 c3]
              refine yuse (hg _ List.mem_cons_self) (by show n0 ≤ (yf_e K2).length; exact Nat.le_trans h0 (Nat.le_trans (Nat.le_of_lt d2) g2)) (yext_trans (yext_trans hr d1 h0) g1 (Nat.le_trans h0 (Nat.le_of_lt d2))) rfl g3 ⟨_, _, rfl, g6, g4⟩ ⟨g5.1, fun g hg' => ?_, g5.2.2⟩ h4
              rcases List.mem_cons.mp hg' with hg' | hg'
              · rw [hg', e7]
                exact Int.le_refl _
              · rcases List.mem_cons.mp hg' with hg' | hg'
                · rw [hg', yneg_ev, e7]
                  exact Int.le_refl _
                · exact g5.2.1 g hg'
            · cases h
          · cases h
      · cases h
    · split at h
      · rename_i hc
        rw [Bool.or_eq_true] at hc
        have hnz : 0 < yev (yi r) q ∨ yev (yi r) q < 0 := by
          rcases hc with hc | hc
          · have := yprv_ok h3 hc
            rw [ydf_ev, ycst_ev] at this
            exact Or.inl (by omega)
          · have := yprv_ok h3 hc
            rw [ydf_ev, ycst_ev] at this
            exact Or.inr (by omega)
        split at h
        · rename_i v K hv
          cases h
          obtain ⟨z, z1, z2⟩ : ∃ z, F (yev (yi r) p, yev (yi r) p) (yev (yi r) q, yev (yi r) q) = (z, z) ∧ yrg z := by
            rw [hF]
            cases rem with
            | false => exact xe2_ex (fun x y => x / y) _ _
            | true => exact xe2_ex (fun x y => x - x / y * y) _ _
          obtain ⟨r', g1, g2, g3, g4, g5, g6⟩ := yfr_ok (Y := (Y.1, Y.2.1, s, Y.2.2.2)) hv h1 a3 h3 (ytop_in z2)
          refine ⟨_, xh_div_at hnz, ?_⟩
          rw [z1]
          exact yuse (hg _ List.mem_cons_self) (Nat.le_trans h0 g2) (yext_trans hr g1 h0) rfl g3 ⟨_, _, rfl, g6, g4⟩ g5 h4
        · cases h
      · cases h
  · cases h
end YI
