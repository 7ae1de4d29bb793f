/-! ===== every contract, and what a call by one comes to ===== -/
section YI
variable {KD : Nat → Option YK} {pu : Nat} {CT : Nat → List YC} {MT : Nat → Option XM} {FT : Nat → Nat → Option FieldType} {exc : List (List XV)} {M : XM} {Pst : Option YV → YF → Bool}
theorem ystp_mono {k k' : YS → Bool} (h : ∀ Y, k Y = true → k' Y = true) {Y : YS} (hs : ystp KD pu CT MT FT exc M Pst k Y = true) : ystp KD pu CT MT FT exc M Pst k' Y = true := by
  unfold ystp at hs ⊢
  split at hs
  · rename_i q hq
    try simp only [hq]
    split at hs
    · rename_i outs ho
      try simp only [ho]
      refine List.all_eq_true.mpr (fun o hoo => ?_)
      have h1 := List.all_eq_true.mp hs o hoo
      match o, h1 with
      | .inl Y', h1 => exact h Y' h1
      | .inr a, h1 => exact h1
    · cases hs
  · cases hs
theorem yexp_mono {Cs Cs' : List YCut} (hC : ∀ C ∈ Cs, C ∈ Cs') {mu : Option YL} : ∀ (n : Nat) (Y : YS), yexp KD pu CT MT FT exc M Pst Cs mu n Y = true → yexp KD pu CT MT FT exc M Pst Cs' mu n Y = true
  | 0, _, h => by cases h
  | n + 1, Y, h => by
    unfold yexp at h ⊢
    rw [Bool.or_eq_true] at h ⊢
    rcases h with h | h
    · obtain ⟨C, h1, h2⟩ := List.any_eq_true.mp h
      exact Or.inl (List.any_eq_true.mpr ⟨C, hC C h1, h2⟩)
    · exact Or.inr (ystp_mono (fun Y' hY => yexp_mono hC n Y' hY) h)
theorem ycut1_mono {Cs Cs' : List YCut} (hC : ∀ C ∈ Cs, C ∈ Cs') {fu : Nat} {C : YCut} (h : ycut1 KD pu CT MT FT exc M Pst Cs fu C = true) : ycut1 KD pu CT MT FT exc M Pst Cs' fu C = true := by
  unfold ycut1 at h ⊢
  rw [Bool.and_eq_true, Bool.and_eq_true] at h ⊢
  exact ⟨h.1, h.2.1, ystp_mono (fun Y hY => yexp_mono hC fu Y hY) h.2.2⟩
end YI
section YH
variable {l : Launch} {D : va_G} {tA : Nat → ClassId} {ex : List Nat} {sc : List XV}
theorem yB_ok (j : Nat) (N : XM) (C : YC) (hN : xMT j = some N) (hC : C ∈ yB j) : yco l D tA ex sc N C := by
  unfold yB at hC
  split at hC
  · rw [List.mem_singleton.mp hC]
    cases (Option.some.inj (hN.symm.trans (rfl : xMT 26 = some xm26)))
    exact yhb26
  · obtain ⟨q, hq, e⟩ := List.mem_map.mp hC
    rw [← e]
    cases (Option.some.inj (hN.symm.trans (rfl : xMT 191 = some xm191)))
    exact yhb191 hq
  · rw [List.mem_singleton.mp hC]
    cases (Option.some.inj (hN.symm.trans (rfl : xMT 192 = some xm192)))
    exact yhb192
  · rw [List.mem_singleton.mp hC]
    cases (Option.some.inj (hN.symm.trans (rfl : xMT 240 = some xm240)))
    exact ysh
  · cases hC
theorem yall (j : Nat) (N : XM) (C : YC) (hN : xMT j = some N) (hC : C ∈ yct yB yD505 j) : yco l D tA ex sc N C := ychks_ok yexs x_good (x_tysX tA) (x_tysY tA) (x_tysC tA) x_ok (cf0 := yno) (fun j N as w ro w' _ h => by cases h) yB_ok yc_505 j N C hN hC
theorem yct_of {B : Nat → List YC} {L : List YD} {i : Nat} {d : YD} (h : L[i]? = some d) : d.2.1 ∈ yct B L d.1 := List.mem_append_right _ (List.mem_map.mpr ⟨d, List.mem_filter.mpr ⟨List.mem_of_getElem? h, by simp⟩, rfl⟩)
theorem yge_ex {ks : List Nat} {w : XW} {pre : List YE} {as : List XV} (h4 : yheap yKD ks w) (ha : yargs ks pre as) {q : Nat × Nat} {e : YE} (hq : q.2 < 100) (h : yge yKD pre q = some e) : ∃ b x, as[q.1]? = some b ∧ ygf ks w b q.2 x := by
  unfold yge at h
  split at h
  · rename_i k n hp
    split at h
    · rename_i hn
      obtain ⟨X, b1, b2⟩ := yargs_at ha hp
      obtain ⟨i, hv, hk⟩ := b2.resolve_left (fun hh => hn hh.1)
      split at h
      · rename_i d hd
        obtain ⟨cc, fa⟩ := d
        split at h
        · rename_i lo hi hf
          obtain ⟨fs, w1, w2, _⟩ := yheap_f h4 hk hd
          have hl : q.2 < fs.length := by
            rw [w2]
            exact (List.getElem?_eq_some_iff.mp hf).1
          obtain ⟨x, hx⟩ : ∃ x, fs[q.2]? = some x := ⟨_, List.getElem?_eq_getElem hl⟩
          exact ⟨X, x, b1, ygf_mk hv hq w1 hx⟩
        · cases h
      · cases h
    · cases h
  · split at h
    · rename_i hg
      omega
    · cases h
  · cases h
theorem yghr_ex {ks : List Nat} {w : XW} {pre : List YE} {as : List XV} (h4 : yheap yKD ks w) (ha : yargs ks pre as) : ∀ {G : List (Nat × Nat)} {ge : List YE}, G.all (fun q => decide (q.2 < 100)) = true → yges yKD pre G = some ge → ∃ gs, yghr ks w as G gs
  | [], _, _, _ => ⟨[], rfl⟩
  | q :: G, ge, hg, h => by
    rw [List.all_cons, Bool.and_eq_true] at hg
    unfold yges at h
    split at h
    · rename_i e et he het
      obtain ⟨b, x, h1, h2⟩ := yge_ex h4 ha (of_decide_eq_true hg.1) he
      obtain ⟨gs, h3⟩ := yghr_ex h4 ha hg.2 het
      exact ⟨x :: gs, x, gs, rfl, ⟨b, h1, h2⟩, h3⟩
    · cases h
/-- a contract that asks for nothing but its arguments -/
def yfree (C : YC) : Bool := decide (C.2.1.2 = []) && (C.2.1.1.all (fun q => decide (q.2 < 100)) && (yges yKD C.1 C.2.1.1).isSome)
theorem ytot {N : XM} {C : YC} (hC : yco l D tA ex sc N C) (hf : yfree C = true) {ks : List Nat} {as : List XV} {w : XW} (ha : yargs ks C.1 as) (h4 : yheap yKD ks w) : ∃ ro w' gs, XMet l D vwCl (tysX tA) tA ex (xSTX ++ [sc]) xSV xNW xNF xTs N as w ro w' ∧ yheap yKD ks w' ∧ ∃ A ∈ C.2.2.2, yans ks (ynu (as ++ gs)) A.1 ro ∧ ∀ g ∈ A.2.1, 0 ≤ yev (ynu (as ++ gs)) g := by
  unfold yfree at hf
  rw [Bool.and_eq_true, Bool.and_eq_true] at hf
  obtain ⟨f1, f2, f3⟩ := hf
  have f1 := of_decide_eq_true f1
  obtain ⟨ge, hge⟩ := Option.isSome_iff_exists.mp f3
  obtain ⟨gs, hgs⟩ := yghr_ex h4 ha f2 hge
  obtain ⟨ro, w', m1, m2, _, _, _, _, A, hA, a1, a2, _⟩ := hC ks as w gs ha h4 hgs (fun g hg => by
    rw [f1] at hg
    cases hg)
  exact ⟨ro, w', gs, m1, m2, A, hA, a1, a2⟩
def yisr (lng : Bool) (A : YA) : Bool := match A.1 with
  | some (.inl e) => decide (e.1 = (bif lng then 2 else 0))
  | some (.inr _) => !lng
  | none => false
theorem yqplan {C : YC} {P G : List YCut} (h1 : yges yKD C.1 C.2.1.1 = some []) (h2 : (C.1.map yecat).sum ≤ xm_l xm235) (he : ystp yKD C.2.2.1 (yct yB yD505) xMT xFT xSTX xm235 (ypst0 yKD (C.1 ++ []).length C.2.2.2) (yexp yKD C.2.2.1 (yct yB yD505) xMT xFT xSTX xm235 (ypst0 yKD (C.1 ++ []).length C.2.2.2) (P ++ G) none 6000) (yent C []) = true) (hp : P.all (ycut1 yKD C.2.2.1 (yct yB yD505) xMT xFT xSTX xm235 (ypst1 C.2.2.2) (P ++ G) 6000) = true) (hg : G.all (ycut1 yKD C.2.2.1 (yct yB yD505) xMT xFT xSTX xm235 (ypst1 C.2.2.2) G 6000) = true) : yco l D tA ex sc xm235 C := ychk_ok yexs x_good (x_tysX tA) (x_tysY tA) (x_tysC tA) x_ok (cf0 := yno) (fun j N as w ro w' _ h => by cases h) yall (j := 235) rfl (ychk_of h1 h2 he (fun c hc => (List.mem_append.mp hc).elim (fun h => List.all_eq_true.mp hp c h) (fun h => ycut1_mono (fun c h => List.mem_append_right _ h) (List.all_eq_true.mp hg c h))))
theorem ypl_116 (b : Int) (hb : yrg b) : ∃ (lo hi : Int) (C : YC), yco l D tA ex sc xm116 C ∧ C.1 = [(1, 0, 0), (0, lo, hi), ytop] ∧ (yfree C && C.2.2.2.all (yisr false)) = true ∧ (lo ≤ b ∧ b ≤ hi) := by
  by_cases h0 : b ≤ 0
  · exact ⟨_, _, yD_244.2.1, yall 116 xm116 _ rfl (yct_of (L := yD505) (i := 261) (d := yD_244) rfl), rfl, by decide +kernel, ⟨hb.1, h0⟩⟩
  by_cases h1 : 64 ≤ b
  · exact ⟨_, _, yD_245.2.1, yall 116 xm116 _ rfl (yct_of (L := yD505) (i := 260) (d := yD_245) rfl), rfl, by decide +kernel, ⟨h1, hb.2⟩⟩
  obtain ⟨n, rfl⟩ : ∃ n : Nat, b = (n : Int) := ⟨b.toNat, by omega⟩
  match n, h0, h1 with
  | 0, h0, _ => exact absurd (by decide) h0
  | 1, _, _ => exact ⟨_, _, yD_116.2.1, yall 116 xm116 _ rfl (yct_of (L := yD505) (i := 389) (d := yD_116) rfl), rfl, by decide +kernel, ⟨by decide, by decide⟩⟩
  | 2, _, _ => exact ⟨_, _, yD_119.2.1, yall 116 xm116 _ rfl (yct_of (L := yD505) (i := 386) (d := yD_119) rfl), rfl, by decide +kernel, ⟨by decide, by decide⟩⟩
  | 3, _, _ => exact ⟨_, _, yD_123.2.1, yall 116 xm116 _ rfl (yct_of (L := yD505) (i := 382) (d := yD_123) rfl), rfl, by decide +kernel, ⟨by decide, by decide⟩⟩
  | 4, _, _ => exact ⟨_, _, yD_125.2.1, yall 116 xm116 _ rfl (yct_of (L := yD505) (i := 380) (d := yD_125) rfl), rfl, by decide +kernel, ⟨by decide, by decide⟩⟩
  | 5, _, _ => exact ⟨_, _, yD_127.2.1, yall 116 xm116 _ rfl (yct_of (L := yD505) (i := 378) (d := yD_127) rfl), rfl, by decide +kernel, ⟨by decide, by decide⟩⟩
  | 6, _, _ => exact ⟨_, _, yD_129.2.1, yall 116 xm116 _ rfl (yct_of (L := yD505) (i := 376) (d := yD_129) rfl), rfl, by decide +kernel, ⟨by decide, by decide⟩⟩
  | 7, _, _ => exact ⟨_, _, yD_131.2.1, yall 116 xm116 _ rfl (yct_of (L := yD505) (i := 374) (d := yD_131) rfl), rfl, by decide +kernel, ⟨by decide, by decide⟩⟩
  | 8, _, _ => exact ⟨_, _, yD_133.2.1, yall 116 xm116 _ rfl (yct_of (L := yD505) (i := 372) (d := yD_133) rfl), rfl, by decide +kernel, ⟨by decide, by decide⟩⟩
  | 9, _, _ => exact ⟨_, _, yD_135.2.1, yall 116 xm116 _ rfl (yct_of (L := yD505) (i := 370) (d := yD_135) rfl), rfl, by decide +kernel, ⟨by decide, by decide⟩⟩
  | 10, _, _ => exact ⟨_, _, yD_137.2.1, yall 116 xm116 _ rfl (yct_of (L := yD505) (i := 368) (d := yD_137) rfl), rfl, by decide +kernel, ⟨by decide, by decide⟩⟩
  | 11, _, _ => exact ⟨_, _, yD_139.2.1, yall 116 xm116 _ rfl (yct_of (L := yD505) (i := 366) (d := yD_139) rfl), rfl, by decide +kernel, ⟨by decide, by decide⟩⟩
  | 12, _, _ => exact ⟨_, _, yD_141.2.1, yall 116 xm116 _ rfl (yct_of (L := yD505) (i := 364) (d := yD_141) rfl), rfl, by decide +kernel, ⟨by decide, by decide⟩⟩
  | 13, _, _ => exact ⟨_, _, yD_143.2.1, yall 116 xm116 _ rfl (yct_of (L := yD505) (i := 362) (d := yD_143) rfl), rfl, by decide +kernel, ⟨by decide, by decide⟩⟩
  | 14, _, _ => exact ⟨_, _, yD_145.2.1, yall 116 xm116 _ rfl (yct_of (L := yD505) (i := 360) (d := yD_145) rfl), rfl, by decide +kernel, ⟨by decide, by decide⟩⟩
  | 15, _, _ => exact ⟨_, _, yD_147.2.1, yall 116 xm116 _ rfl (yct_of (L := yD505) (i := 358) (d := yD_147) rfl), rfl, by decide +kernel, ⟨by decide, by decide⟩⟩
  | 16, _, _ => exact ⟨_, _, yD_149.2.1, yall 116 xm116 _ rfl (yct_of (L := yD505) (i := 356) (d := yD_149) rfl), rfl, by decide +kernel, ⟨by decide, by decide⟩⟩
  | 17, _, _ => exact ⟨_, _, yD_151.2.1, yall 116 xm116 _ rfl (yct_of (L := yD505) (i := 354) (d := yD_151) rfl), rfl, by decide +kernel, ⟨by decide, by decide⟩⟩
  | 18, _, _ => exact ⟨_, _, yD_153.2.1, yall 116 xm116 _ rfl (yct_of (L := yD505) (i := 352) (d := yD_153) rfl), rfl, by decide +kernel, ⟨by decide, by decide⟩⟩
  | 19, _, _ => exact ⟨_, _, yD_155.2.1, yall 116 xm116 _ rfl (yct_of (L := yD505) (i := 350) (d := yD_155) rfl), rfl, by decide +kernel, ⟨by decide, by decide⟩⟩
  | 20, _, _ => exact ⟨_, _, yD_157.2.1, yall 116 xm116 _ rfl (yct_of (L := yD505) (i := 348) (d := yD_157) rfl), rfl, by decide +kernel, ⟨by decide, by decide⟩⟩
  | 21, _, _ => exact ⟨_, _, yD_159.2.1, yall 116 xm116 _ rfl (yct_of (L := yD505) (i := 346) (d := yD_159) rfl), rfl, by decide +kernel, ⟨by decide, by decide⟩⟩
  | 22, _, _ => exact ⟨_, _, yD_161.2.1, yall 116 xm116 _ rfl (yct_of (L := yD505) (i := 344) (d := yD_161) rfl), rfl, by decide +kernel, ⟨by decide, by decide⟩⟩
  | 23, _, _ => exact ⟨_, _, yD_163.2.1, yall 116 xm116 _ rfl (yct_of (L := yD505) (i := 342) (d := yD_163) rfl), rfl, by decide +kernel, ⟨by decide, by decide⟩⟩
  | 24, _, _ => exact ⟨_, _, yD_165.2.1, yall 116 xm116 _ rfl (yct_of (L := yD505) (i := 340) (d := yD_165) rfl), rfl, by decide +kernel, ⟨by decide, by decide⟩⟩
  | 25, _, _ => exact ⟨_, _, yD_167.2.1, yall 116 xm116 _ rfl (yct_of (L := yD505) (i := 338) (d := yD_167) rfl), rfl, by decide +kernel, ⟨by decide, by decide⟩⟩
  | 26, _, _ => exact ⟨_, _, yD_169.2.1, yall 116 xm116 _ rfl (yct_of (L := yD505) (i := 336) (d := yD_169) rfl), rfl, by decide +kernel, ⟨by decide, by decide⟩⟩
  | 27, _, _ => exact ⟨_, _, yD_171.2.1, yall 116 xm116 _ rfl (yct_of (L := yD505) (i := 334) (d := yD_171) rfl), rfl, by decide +kernel, ⟨by decide, by decide⟩⟩
  | 28, _, _ => exact ⟨_, _, yD_173.2.1, yall 116 xm116 _ rfl (yct_of (L := yD505) (i := 332) (d := yD_173) rfl), rfl, by decide +kernel, ⟨by decide, by decide⟩⟩
  | 29, _, _ => exact ⟨_, _, yD_175.2.1, yall 116 xm116 _ rfl (yct_of (L := yD505) (i := 330) (d := yD_175) rfl), rfl, by decide +kernel, ⟨by decide, by decide⟩⟩
  | 30, _, _ => exact ⟨_, _, yD_177.2.1, yall 116 xm116 _ rfl (yct_of (L := yD505) (i := 328) (d := yD_177) rfl), rfl, by decide +kernel, ⟨by decide, by decide⟩⟩
  | 31, _, _ => exact ⟨_, _, yD_179.2.1, yall 116 xm116 _ rfl (yct_of (L := yD505) (i := 326) (d := yD_179) rfl), rfl, by decide +kernel, ⟨by decide, by decide⟩⟩
  | 32, _, _ => exact ⟨_, _, yD_181.2.1, yall 116 xm116 _ rfl (yct_of (L := yD505) (i := 324) (d := yD_181) rfl), rfl, by decide +kernel, ⟨by decide, by decide⟩⟩
  | 33, _, _ => exact ⟨_, _, yD_183.2.1, yall 116 xm116 _ rfl (yct_of (L := yD505) (i := 322) (d := yD_183) rfl), rfl, by decide +kernel, ⟨by decide, by decide⟩⟩
  | 34, _, _ => exact ⟨_, _, yD_185.2.1, yall 116 xm116 _ rfl (yct_of (L := yD505) (i := 320) (d := yD_185) rfl), rfl, by decide +kernel, ⟨by decide, by decide⟩⟩
  | 35, _, _ => exact ⟨_, _, yD_187.2.1, yall 116 xm116 _ rfl (yct_of (L := yD505) (i := 318) (d := yD_187) rfl), rfl, by decide +kernel, ⟨by decide, by decide⟩⟩
  | 36, _, _ => exact ⟨_, _, yD_189.2.1, yall 116 xm116 _ rfl (yct_of (L := yD505) (i := 316) (d := yD_189) rfl), rfl, by decide +kernel, ⟨by decide, by decide⟩⟩
  | 37, _, _ => exact ⟨_, _, yD_191.2.1, yall 116 xm116 _ rfl (yct_of (L := yD505) (i := 314) (d := yD_191) rfl), rfl, by decide +kernel, ⟨by decide, by decide⟩⟩
  | 38, _, _ => exact ⟨_, _, yD_193.2.1, yall 116 xm116 _ rfl (yct_of (L := yD505) (i := 312) (d := yD_193) rfl), rfl, by decide +kernel, ⟨by decide, by decide⟩⟩
  | 39, _, _ => exact ⟨_, _, yD_195.2.1, yall 116 xm116 _ rfl (yct_of (L := yD505) (i := 310) (d := yD_195) rfl), rfl, by decide +kernel, ⟨by decide, by decide⟩⟩
  | 40, _, _ => exact ⟨_, _, yD_197.2.1, yall 116 xm116 _ rfl (yct_of (L := yD505) (i := 308) (d := yD_197) rfl), rfl, by decide +kernel, ⟨by decide, by decide⟩⟩
  | 41, _, _ => exact ⟨_, _, yD_199.2.1, yall 116 xm116 _ rfl (yct_of (L := yD505) (i := 306) (d := yD_199) rfl), rfl, by decide +kernel, ⟨by decide, by decide⟩⟩
  | 42, _, _ => exact ⟨_, _, yD_201.2.1, yall 116 xm116 _ rfl (yct_of (L := yD505) (i := 304) (d := yD_201) rfl), rfl, by decide +kernel, ⟨by decide, by decide⟩⟩
  | 43, _, _ => exact ⟨_, _, yD_203.2.1, yall 116 xm116 _ rfl (yct_of (L := yD505) (i := 302) (d := yD_203) rfl), rfl, by decide +kernel, ⟨by decide, by decide⟩⟩
  | 44, _, _ => exact ⟨_, _, yD_205.2.1, yall 116 xm116 _ rfl (yct_of (L := yD505) (i := 300) (d := yD_205) rfl), rfl, by decide +kernel, ⟨by decide, by decide⟩⟩
  | 45, _, _ => exact ⟨_, _, yD_207.2.1, yall 116 xm116 _ rfl (yct_of (L := yD505) (i := 298) (d := yD_207) rfl), rfl, by decide +kernel, ⟨by decide, by decide⟩⟩
  | 46, _, _ => exact ⟨_, _, yD_209.2.1, yall 116 xm116 _ rfl (yct_of (L := yD505) (i := 296) (d := yD_209) rfl), rfl, by decide +kernel, ⟨by decide, by decide⟩⟩
  | 47, _, _ => exact ⟨_, _, yD_211.2.1, yall 116 xm116 _ rfl (yct_of (L := yD505) (i := 294) (d := yD_211) rfl), rfl, by decide +kernel, ⟨by decide, by decide⟩⟩
  | 48, _, _ => exact ⟨_, _, yD_213.2.1, yall 116 xm116 _ rfl (yct_of (L := yD505) (i := 292) (d := yD_213) rfl), rfl, by decide +kernel, ⟨by decide, by decide⟩⟩
  | 49, _, _ => exact ⟨_, _, yD_215.2.1, yall 116 xm116 _ rfl (yct_of (L := yD505) (i := 290) (d := yD_215) rfl), rfl, by decide +kernel, ⟨by decide, by decide⟩⟩
  | 50, _, _ => exact ⟨_, _, yD_217.2.1, yall 116 xm116 _ rfl (yct_of (L := yD505) (i := 288) (d := yD_217) rfl), rfl, by decide +kernel, ⟨by decide, by decide⟩⟩
  | 51, _, _ => exact ⟨_, _, yD_219.2.1, yall 116 xm116 _ rfl (yct_of (L := yD505) (i := 286) (d := yD_219) rfl), rfl, by decide +kernel, ⟨by decide, by decide⟩⟩
  | 52, _, _ => exact ⟨_, _, yD_221.2.1, yall 116 xm116 _ rfl (yct_of (L := yD505) (i := 284) (d := yD_221) rfl), rfl, by decide +kernel, ⟨by decide, by decide⟩⟩
  | 53, _, _ => exact ⟨_, _, yD_223.2.1, yall 116 xm116 _ rfl (yct_of (L := yD505) (i := 282) (d := yD_223) rfl), rfl, by decide +kernel, ⟨by decide, by decide⟩⟩
  | 54, _, _ => exact ⟨_, _, yD_225.2.1, yall 116 xm116 _ rfl (yct_of (L := yD505) (i := 280) (d := yD_225) rfl), rfl, by decide +kernel, ⟨by decide, by decide⟩⟩
  | 55, _, _ => exact ⟨_, _, yD_227.2.1, yall 116 xm116 _ rfl (yct_of (L := yD505) (i := 278) (d := yD_227) rfl), rfl, by decide +kernel, ⟨by decide, by decide⟩⟩
  | 56, _, _ => exact ⟨_, _, yD_229.2.1, yall 116 xm116 _ rfl (yct_of (L := yD505) (i := 276) (d := yD_229) rfl), rfl, by decide +kernel, ⟨by decide, by decide⟩⟩
  | 57, _, _ => exact ⟨_, _, yD_231.2.1, yall 116 xm116 _ rfl (yct_of (L := yD505) (i := 274) (d := yD_231) rfl), rfl, by decide +kernel, ⟨by decide, by decide⟩⟩
  | 58, _, _ => exact ⟨_, _, yD_233.2.1, yall 116 xm116 _ rfl (yct_of (L := yD505) (i := 272) (d := yD_233) rfl), rfl, by decide +kernel, ⟨by decide, by decide⟩⟩
  | 59, _, _ => exact ⟨_, _, yD_235.2.1, yall 116 xm116 _ rfl (yct_of (L := yD505) (i := 270) (d := yD_235) rfl), rfl, by decide +kernel, ⟨by decide, by decide⟩⟩
  | 60, _, _ => exact ⟨_, _, yD_237.2.1, yall 116 xm116 _ rfl (yct_of (L := yD505) (i := 268) (d := yD_237) rfl), rfl, by decide +kernel, ⟨by decide, by decide⟩⟩
  | 61, _, _ => exact ⟨_, _, yD_239.2.1, yall 116 xm116 _ rfl (yct_of (L := yD505) (i := 266) (d := yD_239) rfl), rfl, by decide +kernel, ⟨by decide, by decide⟩⟩
  | 62, _, _ => exact ⟨_, _, yD_241.2.1, yall 116 xm116 _ rfl (yct_of (L := yD505) (i := 264) (d := yD_241) rfl), rfl, by decide +kernel, ⟨by decide, by decide⟩⟩
  | 63, _, _ => exact ⟨_, _, yD_243.2.1, yall 116 xm116 _ rfl (yct_of (L := yD505) (i := 262) (d := yD_243) rfl), rfl, by decide +kernel, ⟨by decide, by decide⟩⟩
  | n + 64, _, h1 => exact absurd (by omega) h1
theorem ypl_235 (b : Int) (hb : yrg b) : ∃ (lo hi : Int) (C : YC), yco l D tA ex sc xm235 C ∧ C.1 = [(1, 30, 0), (0, lo, hi), ytop] ∧ (yfree C && C.2.2.2.all (yisr false)) = true ∧ (lo ≤ b ∧ b ≤ hi) := by
  by_cases h0 : b ≤ 0
  · exact ⟨_, _, yD_485.2.1, yall 235 xm235 _ rfl (yct_of (L := yD505) (i := 20) (d := yD_485) rfl), rfl, by decide +kernel, ⟨hb.1, h0⟩⟩
  by_cases h1 : 64 ≤ b
  · exact ⟨_, _, yD_486.2.1, yall 235 xm235 _ rfl (yct_of (L := yD505) (i := 19) (d := yD_486) rfl), rfl, by decide +kernel, ⟨h1, hb.2⟩⟩
  obtain ⟨n, rfl⟩ : ∃ n : Nat, b = (n : Int) := ⟨b.toNat, by omega⟩
  match n, h0, h1 with
  | 0, h0, _ => exact absurd (by decide) h0
  | 1, _, _ => exact ⟨_, _, yD_359.2.1, yqplan (P := yP_1) (G := yG_1) rfl (Nat.le_of_ble_eq_true rfl) yqe_1 yqp_1 yqg_1, rfl, by decide +kernel, ⟨by decide, by decide⟩⟩
  | 2, _, _ => exact ⟨_, _, yD_362.2.1, yqplan (P := yP_2) (G := yG_1) rfl (Nat.le_of_ble_eq_true rfl) yqe_2 yqp_2 yqg_1, rfl, by decide +kernel, ⟨by decide, by decide⟩⟩
  | 3, _, _ => exact ⟨_, _, yD_364.2.1, yqplan (P := yP_3) (G := yG_2) rfl (Nat.le_of_ble_eq_true rfl) yqe_3 yqp_3 yqg_2, rfl, by decide +kernel, ⟨by decide, by decide⟩⟩
  | 4, _, _ => exact ⟨_, _, yD_366.2.1, yqplan (P := yP_4) (G := yG_1) rfl (Nat.le_of_ble_eq_true rfl) yqe_4 yqp_4 yqg_1, rfl, by decide +kernel, ⟨by decide, by decide⟩⟩
  | 5, _, _ => exact ⟨_, _, yD_368.2.1, yqplan (P := yP_5) (G := yG_2) rfl (Nat.le_of_ble_eq_true rfl) yqe_5 yqp_5 yqg_2, rfl, by decide +kernel, ⟨by decide, by decide⟩⟩
  | 6, _, _ => exact ⟨_, _, yD_370.2.1, yqplan (P := yP_6) (G := yG_2) rfl (Nat.le_of_ble_eq_true rfl) yqe_6 yqp_6 yqg_2, rfl, by decide +kernel, ⟨by decide, by decide⟩⟩
  | 7, _, _ => exact ⟨_, _, yD_372.2.1, yqplan (P := yP_7) (G := yG_3) rfl (Nat.le_of_ble_eq_true rfl) yqe_7 yqp_7 yqg_3, rfl, by decide +kernel, ⟨by decide, by decide⟩⟩
  | 8, _, _ => exact ⟨_, _, yD_374.2.1, yqplan (P := yP_8) (G := yG_1) rfl (Nat.le_of_ble_eq_true rfl) yqe_8 yqp_8 yqg_1, rfl, by decide +kernel, ⟨by decide, by decide⟩⟩
  | 9, _, _ => exact ⟨_, _, yD_376.2.1, yqplan (P := yP_9) (G := yG_2) rfl (Nat.le_of_ble_eq_true rfl) yqe_9 yqp_9 yqg_2, rfl, by decide +kernel, ⟨by decide, by decide⟩⟩
  | 10, _, _ => exact ⟨_, _, yD_378.2.1, yqplan (P := yP_10) (G := yG_2) rfl (Nat.le_of_ble_eq_true rfl) yqe_10 yqp_10 yqg_2, rfl, by decide +kernel, ⟨by decide, by decide⟩⟩
  | 11, _, _ => exact ⟨_, _, yD_380.2.1, yqplan (P := yP_11) (G := yG_3) rfl (Nat.le_of_ble_eq_true rfl) yqe_11 yqp_11 yqg_3, rfl, by decide +kernel, ⟨by decide, by decide⟩⟩
  | 12, _, _ => exact ⟨_, _, yD_382.2.1, yqplan (P := yP_12) (G := yG_2) rfl (Nat.le_of_ble_eq_true rfl) yqe_12 yqp_12 yqg_2, rfl, by decide +kernel, ⟨by decide, by decide⟩⟩
  | 13, _, _ => exact ⟨_, _, yD_384.2.1, yqplan (P := yP_13) (G := yG_3) rfl (Nat.le_of_ble_eq_true rfl) yqe_13 yqp_13 yqg_3, rfl, by decide +kernel, ⟨by decide, by decide⟩⟩
  | 14, _, _ => exact ⟨_, _, yD_386.2.1, yqplan (P := yP_14) (G := yG_3) rfl (Nat.le_of_ble_eq_true rfl) yqe_14 yqp_14 yqg_3, rfl, by decide +kernel, ⟨by decide, by decide⟩⟩
  | 15, _, _ => exact ⟨_, _, yD_388.2.1, yall 235 xm235 _ rfl (yct_of (L := yD505) (i := 117) (d := yD_388) rfl), rfl, by decide +kernel, ⟨by decide, by decide⟩⟩
  | 16, _, _ => exact ⟨_, _, yD_390.2.1, yqplan (P := yP_16) (G := yG_1) rfl (Nat.le_of_ble_eq_true rfl) yqe_16 yqp_16 yqg_1, rfl, by decide +kernel, ⟨by decide, by decide⟩⟩
  | 17, _, _ => exact ⟨_, _, yD_392.2.1, yqplan (P := yP_17) (G := yG_2) rfl (Nat.le_of_ble_eq_true rfl) yqe_17 yqp_17 yqg_2, rfl, by decide +kernel, ⟨by decide, by decide⟩⟩
  | 18, _, _ => exact ⟨_, _, yD_394.2.1, yqplan (P := yP_18) (G := yG_2) rfl (Nat.le_of_ble_eq_true rfl) yqe_18 yqp_18 yqg_2, rfl, by decide +kernel, ⟨by decide, by decide⟩⟩
  | 19, _, _ => exact ⟨_, _, yD_396.2.1, yqplan (P := yP_19) (G := yG_3) rfl (Nat.le_of_ble_eq_true rfl) yqe_19 yqp_19 yqg_3, rfl, by decide +kernel, ⟨by decide, by decide⟩⟩
  | 20, _, _ => exact ⟨_, _, yD_398.2.1, yqplan (P := yP_20) (G := yG_2) rfl (Nat.le_of_ble_eq_true rfl) yqe_20 yqp_20 yqg_2, rfl, by decide +kernel, ⟨by decide, by decide⟩⟩
  | 21, _, _ => exact ⟨_, _, yD_400.2.1, yqplan (P := yP_21) (G := yG_3) rfl (Nat.le_of_ble_eq_true rfl) yqe_21 yqp_21 yqg_3, rfl, by decide +kernel, ⟨by decide, by decide⟩⟩
  | 22, _, _ => exact ⟨_, _, yD_402.2.1, yqplan (P := yP_22) (G := yG_3) rfl (Nat.le_of_ble_eq_true rfl) yqe_22 yqp_22 yqg_3, rfl, by decide +kernel, ⟨by decide, by decide⟩⟩
  | 23, _, _ => exact ⟨_, _, yD_404.2.1, yall 235 xm235 _ rfl (yct_of (L := yD505) (i := 101) (d := yD_404) rfl), rfl, by decide +kernel, ⟨by decide, by decide⟩⟩
  | 24, _, _ => exact ⟨_, _, yD_406.2.1, yqplan (P := yP_24) (G := yG_2) rfl (Nat.le_of_ble_eq_true rfl) yqe_24 yqp_24 yqg_2, rfl, by decide +kernel, ⟨by decide, by decide⟩⟩
  | 25, _, _ => exact ⟨_, _, yD_408.2.1, yqplan (P := yP_25) (G := yG_3) rfl (Nat.le_of_ble_eq_true rfl) yqe_25 yqp_25 yqg_3, rfl, by decide +kernel, ⟨by decide, by decide⟩⟩
  | 26, _, _ => exact ⟨_, _, yD_410.2.1, yqplan (P := yP_26) (G := yG_3) rfl (Nat.le_of_ble_eq_true rfl) yqe_26 yqp_26 yqg_3, rfl, by decide +kernel, ⟨by decide, by decide⟩⟩
  | 27, _, _ => exact ⟨_, _, yD_412.2.1, yall 235 xm235 _ rfl (yct_of (L := yD505) (i := 93) (d := yD_412) rfl), rfl, by decide +kernel, ⟨by decide, by decide⟩⟩
  | 28, _, _ => exact ⟨_, _, yD_414.2.1, yqplan (P := yP_28) (G := yG_3) rfl (Nat.le_of_ble_eq_true rfl) yqe_28 yqp_28 yqg_3, rfl, by decide +kernel, ⟨by decide, by decide⟩⟩
  | 29, _, _ => exact ⟨_, _, yD_416.2.1, yall 235 xm235 _ rfl (yct_of (L := yD505) (i := 89) (d := yD_416) rfl), rfl, by decide +kernel, ⟨by decide, by decide⟩⟩
  | 30, _, _ => exact ⟨_, _, yD_418.2.1, yall 235 xm235 _ rfl (yct_of (L := yD505) (i := 87) (d := yD_418) rfl), rfl, by decide +kernel, ⟨by decide, by decide⟩⟩
  | 31, _, _ => exact ⟨_, _, yD_420.2.1, yall 235 xm235 _ rfl (yct_of (L := yD505) (i := 85) (d := yD_420) rfl), rfl, by decide +kernel, ⟨by decide, by decide⟩⟩
  | 32, _, _ => exact ⟨_, _, yD_422.2.1, yqplan (P := yP_32) (G := yG_1) rfl (Nat.le_of_ble_eq_true rfl) yqe_32 yqp_32 yqg_1, rfl, by decide +kernel, ⟨by decide, by decide⟩⟩
  | 33, _, _ => exact ⟨_, _, yD_424.2.1, yqplan (P := yP_33) (G := yG_2) rfl (Nat.le_of_ble_eq_true rfl) yqe_33 yqp_33 yqg_2, rfl, by decide +kernel, ⟨by decide, by decide⟩⟩
  | 34, _, _ => exact ⟨_, _, yD_426.2.1, yqplan (P := yP_34) (G := yG_2) rfl (Nat.le_of_ble_eq_true rfl) yqe_34 yqp_34 yqg_2, rfl, by decide +kernel, ⟨by decide, by decide⟩⟩
  | 35, _, _ => exact ⟨_, _, yD_428.2.1, yqplan (P := yP_35) (G := yG_3) rfl (Nat.le_of_ble_eq_true rfl) yqe_35 yqp_35 yqg_3, rfl, by decide +kernel, ⟨by decide, by decide⟩⟩
  | 36, _, _ => exact ⟨_, _, yD_430.2.1, yqplan (P := yP_36) (G := yG_2) rfl (Nat.le_of_ble_eq_true rfl) yqe_36 yqp_36 yqg_2, rfl, by decide +kernel, ⟨by decide, by decide⟩⟩
  | 37, _, _ => exact ⟨_, _, yD_432.2.1, yqplan (P := yP_37) (G := yG_3) rfl (Nat.le_of_ble_eq_true rfl) yqe_37 yqp_37 yqg_3, rfl, by decide +kernel, ⟨by decide, by decide⟩⟩
  | 38, _, _ => exact ⟨_, _, yD_434.2.1, yqplan (P := yP_38) (G := yG_3) rfl (Nat.le_of_ble_eq_true rfl) yqe_38 yqp_38 yqg_3, rfl, by decide +kernel, ⟨by decide, by decide⟩⟩
  | 39, _, _ => exact ⟨_, _, yD_436.2.1, yall 235 xm235 _ rfl (yct_of (L := yD505) (i := 69) (d := yD_436) rfl), rfl, by decide +kernel, ⟨by decide, by decide⟩⟩
  | 40, _, _ => exact ⟨_, _, yD_438.2.1, yqplan (P := yP_40) (G := yG_2) rfl (Nat.le_of_ble_eq_true rfl) yqe_40 yqp_40 yqg_2, rfl, by decide +kernel, ⟨by decide, by decide⟩⟩
  | 41, _, _ => exact ⟨_, _, yD_440.2.1, yqplan (P := yP_41) (G := yG_3) rfl (Nat.le_of_ble_eq_true rfl) yqe_41 yqp_41 yqg_3, rfl, by decide +kernel, ⟨by decide, by decide⟩⟩
  | 42, _, _ => exact ⟨_, _, yD_442.2.1, yqplan (P := yP_42) (G := yG_3) rfl (Nat.le_of_ble_eq_true rfl) yqe_42 yqp_42 yqg_3, rfl, by decide +kernel, ⟨by decide, by decide⟩⟩
  | 43, _, _ => exact ⟨_, _, yD_444.2.1, yall 235 xm235 _ rfl (yct_of (L := yD505) (i := 61) (d := yD_444) rfl), rfl, by decide +kernel, ⟨by decide, by decide⟩⟩
  | 44, _, _ => exact ⟨_, _, yD_446.2.1, yqplan (P := yP_44) (G := yG_3) rfl (Nat.le_of_ble_eq_true rfl) yqe_44 yqp_44 yqg_3, rfl, by decide +kernel, ⟨by decide, by decide⟩⟩
  | 45, _, _ => exact ⟨_, _, yD_448.2.1, yall 235 xm235 _ rfl (yct_of (L := yD505) (i := 57) (d := yD_448) rfl), rfl, by decide +kernel, ⟨by decide, by decide⟩⟩
  | 46, _, _ => exact ⟨_, _, yD_450.2.1, yall 235 xm235 _ rfl (yct_of (L := yD505) (i := 55) (d := yD_450) rfl), rfl, by decide +kernel, ⟨by decide, by decide⟩⟩
  | 47, _, _ => exact ⟨_, _, yD_452.2.1, yall 235 xm235 _ rfl (yct_of (L := yD505) (i := 53) (d := yD_452) rfl), rfl, by decide +kernel, ⟨by decide, by decide⟩⟩
  | 48, _, _ => exact ⟨_, _, yD_454.2.1, yqplan (P := yP_48) (G := yG_2) rfl (Nat.le_of_ble_eq_true rfl) yqe_48 yqp_48 yqg_2, rfl, by decide +kernel, ⟨by decide, by decide⟩⟩
  | 49, _, _ => exact ⟨_, _, yD_456.2.1, yqplan (P := yP_49) (G := yG_3) rfl (Nat.le_of_ble_eq_true rfl) yqe_49 yqp_49 yqg_3, rfl, by decide +kernel, ⟨by decide, by decide⟩⟩
  | 50, _, _ => exact ⟨_, _, yD_458.2.1, yqplan (P := yP_50) (G := yG_3) rfl (Nat.le_of_ble_eq_true rfl) yqe_50 yqp_50 yqg_3, rfl, by decide +kernel, ⟨by decide, by decide⟩⟩
  | 51, _, _ => exact ⟨_, _, yD_460.2.1, yall 235 xm235 _ rfl (yct_of (L := yD505) (i := 45) (d := yD_460) rfl), rfl, by decide +kernel, ⟨by decide, by decide⟩⟩
  | 52, _, _ => exact ⟨_, _, yD_462.2.1, yqplan (P := yP_52) (G := yG_3) rfl (Nat.le_of_ble_eq_true rfl) yqe_52 yqp_52 yqg_3, rfl, by decide +kernel, ⟨by decide, by decide⟩⟩
  | 53, _, _ => exact ⟨_, _, yD_464.2.1, yall 235 xm235 _ rfl (yct_of (L := yD505) (i := 41) (d := yD_464) rfl), rfl, by decide +kernel, ⟨by decide, by decide⟩⟩
  | 54, _, _ => exact ⟨_, _, yD_466.2.1, yall 235 xm235 _ rfl (yct_of (L := yD505) (i := 39) (d := yD_466) rfl), rfl, by decide +kernel, ⟨by decide, by decide⟩⟩
  | 55, _, _ => exact ⟨_, _, yD_468.2.1, yall 235 xm235 _ rfl (yct_of (L := yD505) (i := 37) (d := yD_468) rfl), rfl, by decide +kernel, ⟨by decide, by decide⟩⟩
  | 56, _, _ => exact ⟨_, _, yD_470.2.1, yqplan (P := yP_56) (G := yG_3) rfl (Nat.le_of_ble_eq_true rfl) yqe_56 yqp_56 yqg_3, rfl, by decide +kernel, ⟨by decide, by decide⟩⟩
  | 57, _, _ => exact ⟨_, _, yD_472.2.1, yall 235 xm235 _ rfl (yct_of (L := yD505) (i := 33) (d := yD_472) rfl), rfl, by decide +kernel, ⟨by decide, by decide⟩⟩
  | 58, _, _ => exact ⟨_, _, yD_474.2.1, yall 235 xm235 _ rfl (yct_of (L := yD505) (i := 31) (d := yD_474) rfl), rfl, by decide +kernel, ⟨by decide, by decide⟩⟩
  | 59, _, _ => exact ⟨_, _, yD_476.2.1, yall 235 xm235 _ rfl (yct_of (L := yD505) (i := 29) (d := yD_476) rfl), rfl, by decide +kernel, ⟨by decide, by decide⟩⟩
  | 60, _, _ => exact ⟨_, _, yD_478.2.1, yall 235 xm235 _ rfl (yct_of (L := yD505) (i := 27) (d := yD_478) rfl), rfl, by decide +kernel, ⟨by decide, by decide⟩⟩
  | 61, _, _ => exact ⟨_, _, yD_480.2.1, yall 235 xm235 _ rfl (yct_of (L := yD505) (i := 25) (d := yD_480) rfl), rfl, by decide +kernel, ⟨by decide, by decide⟩⟩
  | 62, _, _ => exact ⟨_, _, yD_482.2.1, yall 235 xm235 _ rfl (yct_of (L := yD505) (i := 23) (d := yD_482) rfl), rfl, by decide +kernel, ⟨by decide, by decide⟩⟩
  | 63, _, _ => exact ⟨_, _, yD_484.2.1, yall 235 xm235 _ rfl (yct_of (L := yD505) (i := 21) (d := yD_484) rfl), rfl, by decide +kernel, ⟨by decide, by decide⟩⟩
  | n + 64, _, h1 => exact absurd (by omega) h1
end YH
