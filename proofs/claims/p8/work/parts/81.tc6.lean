/-! ===== what each call leaves of rows and texts ===== -/
theorem zU.W {ks : List Nat} {w : XW} {S T : ZS} (h : zU ks w S T) : yW ks w := ⟨h.1, h.2.1.at rfl, h.2.1.at rfl, fun p p' a b => (h.2.1.un (q := 12) rfl (fun _ => yu_16) a).trans (h.2.1.un (q := 12) rfl (fun _ => yu_16) b).symm, fun p p' a b => (h.2.1.un (q := 13) rfl (fun _ => yu_20) a).trans (h.2.1.un (q := 13) rfl (fun _ => yu_20) b).symm⟩
def zV (ks : List Nat) (w : XW) : Prop := ∃ S, zU ks w S S
section YL
variable {p : Program} {l : Launch} {e : Env} {s : State} {m : MethodId} {below : List Frame} {meth : Method} {c : Code} {b L : Nat} {xs : Nat → Int32} {D : va_G} {tA : Nat → ClassId} {ex : List Nat} {sc : List XV}
/-- a call's outcome -/
def zOut (l : Launch) (D : va_G) (tA : Nat → ClassId) (ex : List Nat) (sc : List XV) (N : XM) (as : List XV) (ks : List Nat) (w : XW) (lng : Bool) (S T : ZS) : Prop := ∃ (ro : Option XV) (w' : XW) (tl : List Nat), XMet l D vwCl (tysX tA) tA ex (xSTX ++ [sc]) xSV xNW xNF xTs N as w ro w' ∧ zU (ks ++ tl) w' S T ∧ (∀ k ∈ tl, yfresh k = true) ∧ ∃ x, ro = some x ∧ xkd x = (bif lng then 1 else 0)
theorem zOut_of {N : XM} {as : List XV} {ks : List Nat} {w : XW} {S T : ZS} {z : Int} (h : ∃ w', XMet l D vwCl (tysX tA) tA ex (xSTX ++ [sc]) xSV xNW xNF xTs N as w (some (.inl (z, z))) w' ∧ zU ks w' S T) : zOut l D tA ex sc N as ks w false S T := by
  obtain ⟨w', m1, m2⟩ := h
  exact ⟨_, w', [], m1, by rw [List.append_nil]; exact m2, (fun k hk => by cases hk), _, rfl, rfl⟩
theorem zout {N : XM} {C : YC} {lng : Bool} (hC : yco l D tA ex sc N C) (hf : ((yfree C && C.2.2.2.all (yisr lng)) && zmo C) = true) {ks : List Nat} {as : List XV} {w : XW} {S T : ZS} (ha : yargs ks C.1 as) (hU : zU ks w S T) : zOut l D tA ex sc N as ks w lng S T := by
  rw [Bool.and_eq_true, Bool.and_eq_true] at hf
  obtain ⟨⟨hf, hal⟩, hm⟩ := hf
  unfold yfree at hf
  rw [Bool.and_eq_true, Bool.and_eq_true] at hf
  obtain ⟨f1, f2, f3⟩ := hf
  have f1 := of_decide_eq_true f1
  obtain ⟨ge, hge⟩ := Option.isSome_iff_exists.mp f3
  obtain ⟨gs, hgs⟩ := yghr_ex hU.1 ha f2 hge
  obtain ⟨ro, w', m1, m2, o1, o2, _, _, A, hA, a1, _⟩ := hC ks as w gs ha hU.1 hgs (fun g hg => by
    rw [f1] at hg
    cases hg)
  have hU' : zU ks w' S T := by
    unfold zmo at hm
    rw [Bool.or_eq_true] at hm
    rcases hm with hm | hm
    · rw [o1 (of_decide_eq_true hm)]
      exact hU
    · exact zU_rows hU m2 (o2 (of_decide_eq_true hm))
  exact ⟨ro, w', [], m1, by rw [List.append_nil]; exact hU', (fun k hk => by cases hk), yisr_ok (List.all_eq_true.mp hal A hA) a1⟩
theorem zU.app {ks tl : List Nat} {w w' : XW} {S T : ZS} (hU : zU ks w S T) (ht : ∀ k ∈ tl, yfresh k = true) (h4 : yheap yKD (ks ++ tl) w') (hr : yrows ks w w') : zU (ks ++ tl) w' S T := by
  obtain ⟨_, hK, hC, hM⟩ := hU
  refine ⟨h4, hK.app ht, ⟨(hr 1 1 (hK.at rfl) (by omega)).trans hC.1, (hr 2 2 (hK.at rfl) (by omega)).trans hC.2.1, fun s hs => ?_⟩, zMB_eq hM.1 (hr 59 32 (hK.at rfl) (by omega)) (hr 60 33 (hK.at rfl) (by omega)), zMB_eq hM.2 (hr 62 35 (hK.at rfl) (by omega)) (hr 63 36 (hK.at rfl) (by omega))⟩
  obtain ⟨z, es, h1, h2, h3⟩ := hC.2.2 s hs
  exact ⟨z, es, (hr _ 3 (zks_o hK hs) (by omega)).trans h1, (hr _ 4 (zks_a hK hs) (by omega)).trans h2, h3⟩
theorem zoutA {N : XM} {ks : List Nat} {as : List XV} {w : XW} {mk mn : Nat} {S T : ZS} (h : ∃ q, XMet l D vwCl (tysX tA) tA ex (xSTX ++ [sc]) xSV xNW xNF xTs N as w q.1 q.2.1 ∧ ypA ks w mk mn q) (hU : zU ks w S T) : zOut l D tA ex sc N as ks w false S T := by
  obtain ⟨q, m1, _, _, ⟨z, hz, _⟩, ⟨tl, ht, hh⟩, hr⟩ := h
  exact ⟨q.1, q.2.1, tl, m1, hU.app ht hh hr, ht, _, hz, rfl⟩
theorem zrec_0 {ks : List Nat} {w : XW} {S T : ZS} (hW : zU ks w S T) {as : List XV} : xrecv w 9 (.inr (.inr (1, 0)) :: as) = true := yrec_0 hW.W
theorem zrec_57 {ks : List Nat} {w : XW} {S T : ZS} (hW : zU ks w S T) {as : List XV} : xrecv w 10 (.inr (.inr (1, 57)) :: as) = true := yrec_57 hW.W
set_option maxRecDepth 4000 in
theorem zx_8 {ks : List Nat} {w : XW} {S T : ZS} (hU : zU ks w S T) {a0 a1 : Int} (h0 : yrg a0) (h1 : yrg a1) : zOut l D tA ex sc xm8 [.inr (.inr (1, 0)), .inl (a0, a0), .inl (a1, a1)] ks w false (zAnS 6 0 0 S a0 a1) T := by
  exact zOut_of (zc_row hU h1)
set_option maxRecDepth 4000 in
theorem zx_12 {ks : List Nat} {w : XW} {S T : ZS} (hU : zU ks w S T) {a0 a1 a2 : Int} (h0 : yrg a0) (h1 : yrg a1) (h2 : yrg a2) : zOut l D tA ex sc xm12 [.inr (.inr (1, 0)), .inl (a0, a0), .inl (a1, a1), .inl (a2, a2)] ks w false (zLyS 6 0 S a0 a1 a2) T := by
  exact zOut_of (zc_lay hU h1 h2)
set_option maxRecDepth 4000 in
theorem zx_16 {ks : List Nat} {w : XW} {S T : ZS} (hU : zU ks w S T) {a0 : Int} (h0 : yrg a0) : zOut l D tA ex sc xm16 [.inr (.inr (1, 0)), .inl (a0, a0)] ks w false (zTrS S a0) T := by
  exact zOut_of (zc_tear hU )
set_option maxRecDepth 4000 in
theorem zx_17 {ks : List Nat} {w : XW} {S T : ZS} (hU : zU ks w S T) {a0 a1 a2 a3 a4 : Int} (h0 : yrg a0) (h1 : yrg a1) (h2 : yrg a2) (h3 : yrg a3) (h4 : yrg a4) : zOut l D tA ex sc xm17 [.inr (.inr (1, 0)), .inl (a0, a0), .inl (a1, a1), .inl (a2, a2), .inl (a3, a3), .inl (a4, a4)] ks w false (zCpS S a0 a1 a2 a3 a4) T := by
  exact zOut_of (zc_copy hU h1 h3 h4)
set_option maxRecDepth 4000 in
theorem zx_18 {ks : List Nat} {w : XW} {S T : ZS} (hU : zU ks w S T) {a0 : Int} (h0 : yrg a0) : zOut l D tA ex sc xm18 [.inr (.inr (1, 0)), .inl (a0, a0)] ks w false S T := by
  exact zout (yall 18 xm18 _ rfl (yct_of (L := yD505) (i := 494) (d := yD_11) rfl)) (by decide +kernel) ⟨_, _, rfl, Or.inr ⟨0, rfl, hU.W.2.1⟩, _, _, rfl, ytop_in h0, rfl⟩ hU
set_option maxRecDepth 4000 in
theorem zx_19 {ks : List Nat} {w : XW} {S T : ZS} (hU : zU ks w S T) {a0 a1 : Int} (h0 : yrg a0) (h1 : yrg a1) : zOut l D tA ex sc xm19 [.inr (.inr (1, 0)), .inl (a0, a0), .inl (a1, a1)] ks w false (zAnS 4 6 32 S a0 a1) T := by
  exact zOut_of (zc_text hU h1)
set_option maxRecDepth 4000 in
theorem zx_21 {ks : List Nat} {w : XW} {S T : ZS} (hU : zU ks w S T) {a0 a1 a2 : Int} (h0 : yrg a0) (h1 : yrg a1) (h2 : yrg a2) : zOut l D tA ex sc xm21 [.inr (.inr (1, 0)), .inl (a0, a0), .inl (a1, a1), .inl (a2, a2)] ks w false (zLyS 4 6 S a0 a1 (zb8 a2)) T := by
  exact zOut_of (zc_put hU h1 h2)
set_option maxRecDepth 4000 in
theorem zx_22 {ks : List Nat} {w : XW} {S T : ZS} (hU : zU ks w S T) {a0 a1 : Int} (h0 : yrg a0) (h1 : 0 ≤ a1 ∧ a1 ≤ 1) : zOut l D tA ex sc xm22 [.inr (.inr (1, 0)), .inl (a0, a0), .inl (a1, a1)] ks w false S T := by
  exact zout (yall 22 xm22 _ rfl (yct_of (L := yD505) (i := 484) (d := yD_21) rfl)) (by decide +kernel) ⟨_, _, rfl, Or.inr ⟨0, rfl, hU.W.2.1⟩, _, _, rfl, ytop_in h0, _, _, rfl, ⟨a1, rfl, Int.le_trans (by decide) h1.1, Int.le_trans h1.2 (by decide), by omega, by omega⟩, rfl⟩ hU
set_option maxRecDepth 4000 in
theorem zx_28 {ks : List Nat} {w : XW} {S T : ZS} (hU : zU ks w S T) {a0 a1 a2 a3 : Int} (h0 : yrg a0) (h1 : yrg a1) (h2 : yrg a2) (h3 : yrg a3) : zOut l D tA ex sc xm28 [.inr (.inr (1, 0)), .inl (a0, a0), .inl (a1, a1), .inl (a2, a2), .inl (a3, a3)] ks w false S T := by
  exact zout (yall 28 xm28 _ rfl (yct_of (L := yD505) (i := 480) (d := yD_25) rfl)) (by decide +kernel) ⟨_, _, rfl, Or.inr ⟨0, rfl, hU.W.2.1⟩, _, _, rfl, ytop_in h0, _, _, rfl, ytop_in h1, _, _, rfl, ytop_in h2, _, _, rfl, ytop_in h3, rfl⟩ hU
set_option maxRecDepth 4000 in
theorem zx_32 {ks : List Nat} {w : XW} {S T : ZS} (hU : zU ks w S T) {a0 a1 : Int} (h0 : yrg a0) (h1 : yrg a1) : zOut l D tA ex sc xm32 [.inr (.inr (1, 0)), .inl (a0, a0), .inl (a1, a1)] ks w false S T := by
  exact zout (yall 32 xm32 _ rfl (yct_of (L := yD505) (i := 478) (d := yD_27) rfl)) (by decide +kernel) ⟨_, _, rfl, Or.inr ⟨0, rfl, hU.W.2.1⟩, _, _, rfl, ytop_in h0, _, _, rfl, ytop_in h1, rfl⟩ hU
set_option maxRecDepth 4000 in
theorem zx_34 {ks : List Nat} {w : XW} {S T : ZS} (hU : zU ks w S T) {a0 a1 : Int} (h0 : yrg a0) (h1 : yrg a1) : zOut l D tA ex sc xm34 [.inr (.inr (1, 0)), .inl (a0, a0), .inl (a1, a1)] ks w false S T := by
  exact zout (yall 34 xm34 _ rfl (yct_of (L := yD505) (i := 477) (d := yD_28) rfl)) (by decide +kernel) ⟨_, _, rfl, Or.inr ⟨0, rfl, hU.W.2.1⟩, _, _, rfl, ytop_in h0, _, _, rfl, ytop_in h1, rfl⟩ hU
set_option maxRecDepth 4000 in
theorem zx_35 {ks : List Nat} {w : XW} {S T : ZS} (hU : zU ks w S T) {a0 : Int} (h0 : yrg a0) : zOut l D tA ex sc xm35 [.inr (.inr (1, 0)), .inl (a0, a0)] ks w false S T := by
  exact zout (yall 35 xm35 _ rfl (yct_of (L := yD505) (i := 476) (d := yD_29) rfl)) (by decide +kernel) ⟨_, _, rfl, Or.inr ⟨0, rfl, hU.W.2.1⟩, _, _, rfl, ytop_in h0, rfl⟩ hU
set_option maxRecDepth 4000 in
theorem zx_36 {ks : List Nat} {w : XW} {S T : ZS} (hU : zU ks w S T) {a0 : Int} (h0 : yrg a0) : zOut l D tA ex sc xm36 [.inr (.inr (1, 0)), .inl (a0, a0)] ks w false S T := by
  exact zout (yall 36 xm36 _ rfl (yct_of (L := yD505) (i := 475) (d := yD_30) rfl)) (by decide +kernel) ⟨_, _, rfl, Or.inr ⟨0, rfl, hU.W.2.1⟩, _, _, rfl, ytop_in h0, rfl⟩ hU
set_option maxRecDepth 4000 in
theorem zx_37 {ks : List Nat} {w : XW} {S T : ZS} (hU : zU ks w S T) {a0 a1 a2 a3 : Int} (h0 : yrg a0) (h1 : yrg a1) (h2 : yrg a2) (h3 : yrg a3) : zOut l D tA ex sc xm37 [.inr (.inr (1, 0)), .inl (a0, a0), .inl (a1, a1), .inl (a2, a2), .inl (a3, a3)] ks w false S T := by
  exact zout (yall 37 xm37 _ rfl (yct_of (L := yD505) (i := 471) (d := yD_34) rfl)) (by decide +kernel) ⟨_, _, rfl, Or.inr ⟨0, rfl, hU.W.2.1⟩, _, _, rfl, ytop_in h0, _, _, rfl, ytop_in h1, _, _, rfl, ytop_in h2, _, _, rfl, ytop_in h3, rfl⟩ hU
set_option maxRecDepth 4000 in
theorem zx_41 {ks : List Nat} {w : XW} {S T : ZS} (hU : zU ks w S T) {a0 a1 : Int} (h0 : yrg a0) (h1 : yrg a1) : zOut l D tA ex sc xm41 [.inr (.inr (1, 0)), .inl (a0, a0), .inl (a1, a1)] ks w false S T := by
  exact zout (yall 41 xm41 _ rfl (yct_of (L := yD505) (i := 467) (d := yD_38) rfl)) (by decide +kernel) ⟨_, _, rfl, Or.inr ⟨0, rfl, hU.W.2.1⟩, _, _, rfl, ytop_in h0, _, _, rfl, ytop_in h1, rfl⟩ hU
set_option maxRecDepth 4000 in
theorem zx_45 {ks : List Nat} {w : XW} {S T : ZS} (hU : zU ks w S T) {a0 a1 : Int} (h0 : yrg a0) (h1 : yrg a1) : zOut l D tA ex sc xm45 [.inr (.inr (1, 0)), .inl (a0, a0), .inl (a1, a1)] ks w false S T := by
  exact zout (yall 45 xm45 _ rfl (yct_of (L := yD505) (i := 465) (d := yD_40) rfl)) (by decide +kernel) ⟨_, _, rfl, Or.inr ⟨0, rfl, hU.W.2.1⟩, _, _, rfl, ytop_in h0, _, _, rfl, ytop_in h1, rfl⟩ hU
set_option maxRecDepth 4000 in
theorem zx_47 {ks : List Nat} {w : XW} {S T : ZS} (hU : zU ks w S T) {a0 : Int} (h0 : yrg a0) : zOut l D tA ex sc xm47 [.inr (.inr (1, 0)), .inl (a0, a0)] ks w false S T := by
  exact zout (yall 47 xm47 _ rfl (yct_of (L := yD505) (i := 463) (d := yD_42) rfl)) (by decide +kernel) ⟨_, _, rfl, Or.inr ⟨0, rfl, hU.W.2.1⟩, _, _, rfl, ytop_in h0, rfl⟩ hU
set_option maxRecDepth 4000 in
theorem zx_49 {ks : List Nat} {w : XW} {S T : ZS} (hU : zU ks w S T) {a0 a1 : Int} (h0 : yrg a0) (h1 : yrg a1) : zOut l D tA ex sc xm49 [.inr (.inr (1, 0)), .inl (a0, a0), .inl (a1, a1)] ks w false S T := by
  exact zout (yall 49 xm49 _ rfl (yct_of (L := yD505) (i := 461) (d := yD_44) rfl)) (by decide +kernel) ⟨_, _, rfl, Or.inr ⟨0, rfl, hU.W.2.1⟩, _, _, rfl, ytop_in h0, _, _, rfl, ytop_in h1, rfl⟩ hU
set_option maxRecDepth 4000 in
theorem zx_51 {ks : List Nat} {w : XW} {S T : ZS} (hU : zU ks w S T)  : zOut l D tA ex sc xm51 [.inr (.inr (1, 0))] ks w false S T := by
  exact zout (yall 51 xm51 _ rfl (yct_of (L := yD505) (i := 439) (d := yD_66) rfl)) (by decide +kernel) ⟨_, _, rfl, Or.inr ⟨0, rfl, hU.W.2.1⟩, rfl⟩ hU
set_option maxRecDepth 4000 in
theorem zx_72 {ks : List Nat} {w : XW} {S T : ZS} (hU : zU ks w S T) {a0 : Int} (h0 : yrg a0) : zOut l D tA ex sc xm72 [.inr (.inr (1, 0)), .inl (a0, a0)] ks w false S T := by
  exact zoutA (ylook (fun j N C hN hC => yall j N C hN (ylkL_in hC)) hU.1 hU.W.2.2.2.2 hU.W.2.1 h0) hU
set_option maxRecDepth 4000 in
theorem zx_74 {ks : List Nat} {w : XW} {S T : ZS} (hU : zU ks w S T) {a0 a1 : Int} (h0 : yrg a0) (h1 : yrg a1) : zOut l D tA ex sc xm74 [.inr (.inr (1, 0)), .inl (a0, a0), .inl (a1, a1)] ks w false S T := by
  exact zout (yall 74 xm74 _ rfl (yct_of (L := yD505) (i := 437) (d := yD_68) rfl)) (by decide +kernel) ⟨_, _, rfl, Or.inr ⟨0, rfl, hU.W.2.1⟩, _, _, rfl, ytop_in h0, _, _, rfl, ytop_in h1, rfl⟩ hU
set_option maxRecDepth 4000 in
theorem zx_76 {ks : List Nat} {w : XW} {S T : ZS} (hU : zU ks w S T) {a0 : Int} (h0 : yrg a0) : zOut l D tA ex sc xm76 [.inr (.inr (1, 0)), .inl (a0, a0)] ks w false S T := by
  exact zout (yall 76 xm76 _ rfl (yct_of (L := yD505) (i := 435) (d := yD_70) rfl)) (by decide +kernel) ⟨_, _, rfl, Or.inr ⟨0, rfl, hU.W.2.1⟩, _, _, rfl, ytop_in h0, rfl⟩ hU
set_option maxRecDepth 4000 in
theorem zx_78 {ks : List Nat} {w : XW} {S T : ZS} (hU : zU ks w S T) {a0 : Int} (h0 : yrg a0) : zOut l D tA ex sc xm78 [.inr (.inr (1, 0)), .inl (a0, a0)] ks w false S T := by
  exact zout (yall 78 xm78 _ rfl (yct_of (L := yD505) (i := 434) (d := yD_71) rfl)) (by decide +kernel) ⟨_, _, rfl, Or.inr ⟨0, rfl, hU.W.2.1⟩, _, _, rfl, ytop_in h0, rfl⟩ hU
set_option maxRecDepth 4000 in
theorem zx_79 {ks : List Nat} {w : XW} {S T : ZS} (hU : zU ks w S T) {a0 a1 : Int} (h0 : yrg a0) (h1 : yrg a1) : zOut l D tA ex sc xm79 [.inr (.inr (1, 0)), .inl (a0, a0), .inl (a1, a1)] ks w false S T := by
  exact zout (yall 79 xm79 _ rfl (yct_of (L := yD505) (i := 431) (d := yD_74) rfl)) (by decide +kernel) ⟨_, _, rfl, Or.inr ⟨0, rfl, hU.W.2.1⟩, _, _, rfl, ytop_in h0, _, _, rfl, ytop_in h1, rfl⟩ hU
set_option maxRecDepth 4000 in
theorem zx_82 {ks : List Nat} {w : XW} {S T : ZS} (hU : zU ks w S T) {a0 a1 a2 : Int} (h0 : yrg a0) (h1 : yrg a1) (h2 : yrg a2) : zOut l D tA ex sc xm82 [.inr (.inr (1, 0)), .inl (a0, a0), .inl (a1, a1), .inl (a2, a2)] ks w false S T := by
  exact zoutA (ysay (fun j N C hN hC => yall j N C hN (ysyL_in hC)) (fun N hN => yall 86 N _ hN (yct_of (L := yD505) (i := 0) (d := yD_505) rfl)) hU.1 hU.W.2.2.2.1 hU.W.2.1 h0 h1 h2) hU
set_option maxRecDepth 4000 in
theorem zx_87 {ks : List Nat} {w : XW} {S T : ZS} (hU : zU ks w S T) {a0 a1 : Int} (h0 : yrg a0) (h1 : yrg a1) : zOut l D tA ex sc xm87 [.inr (.inr (1, 0)), .inl (a0, a0), .inl (a1, a1)] ks w false S T := by
  exact zout (yall 87 xm87 _ rfl (yct_of (L := yD505) (i := 428) (d := yD_77) rfl)) (by decide +kernel) ⟨_, _, rfl, Or.inr ⟨0, rfl, hU.W.2.1⟩, _, _, rfl, ytop_in h0, _, _, rfl, ytop_in h1, rfl⟩ hU
set_option maxRecDepth 4000 in
theorem zx_90 {ks : List Nat} {w : XW} {S T : ZS} (hU : zU ks w S T) {a0 a1 : Int} (h0 : yrg a0) (h1 : yrg a1) : zOut l D tA ex sc xm90 [.inr (.inr (1, 0)), .inl (a0, a0), .inl (a1, a1)] ks w false S T := by
  exact zout (yall 90 xm90 _ rfl (yct_of (L := yD505) (i := 425) (d := yD_80) rfl)) (by decide +kernel) ⟨_, _, rfl, Or.inr ⟨0, rfl, hU.W.2.1⟩, _, _, rfl, ytop_in h0, _, _, rfl, ytop_in h1, rfl⟩ hU
set_option maxRecDepth 4000 in
theorem zx_93 {ks : List Nat} {w : XW} {S T : ZS} (hU : zU ks w S T) {a0 a1 : Int} (h0 : yrg a0) (h1 : yrg a1) : zOut l D tA ex sc xm93 [.inr (.inr (1, 0)), .inl (a0, a0), .inl (a1, a1)] ks w false S T := by
  exact zout (yall 93 xm93 _ rfl (yct_of (L := yD505) (i := 424) (d := yD_81) rfl)) (by decide +kernel) ⟨_, _, rfl, Or.inr ⟨0, rfl, hU.W.2.1⟩, _, _, rfl, ytop_in h0, _, _, rfl, ytop_in h1, rfl⟩ hU
set_option maxRecDepth 4000 in
theorem zx_94 {ks : List Nat} {w : XW} {S T : ZS} (hU : zU ks w S T) {a0 a1 a2 a3 : Int} (h0 : yrg a0) (h1 : yrg a1) (h2 : yrg a2) (h3 : yrg a3) : zOut l D tA ex sc xm94 [.inr (.inr (1, 0)), .inl (a0, a0), .inl (a1, a1), .inl (a2, a2), .inl (a3, a3)] ks w false S T := by
  exact zout (yall 94 xm94 _ rfl (yct_of (L := yD505) (i := 417) (d := yD_88) rfl)) (by decide +kernel) ⟨_, _, rfl, Or.inr ⟨0, rfl, hU.W.2.1⟩, _, _, rfl, ytop_in h0, _, _, rfl, ytop_in h1, _, _, rfl, ytop_in h2, _, _, rfl, ytop_in h3, rfl⟩ hU
set_option maxRecDepth 4000 in
theorem zx_100 {ks : List Nat} {w : XW} {S T : ZS} (hU : zU ks w S T) {a0 a1 a2 : Int} (h0 : yrg a0) (h1 : yrg a1) (h2 : yrg a2) : zOut l D tA ex sc xm100 [.inr (.inr (1, 0)), .inl (a0, a0), .inl (a1, a1), .inl (a2, a2)] ks w false S T := by
  exact zout (yall 100 xm100 _ rfl (yct_of (L := yD505) (i := 414) (d := yD_91) rfl)) (by decide +kernel) ⟨_, _, rfl, Or.inr ⟨0, rfl, hU.W.2.1⟩, _, _, rfl, ytop_in h0, _, _, rfl, ytop_in h1, _, _, rfl, ytop_in h2, rfl⟩ hU
set_option maxRecDepth 4000 in
theorem zx_103 {ks : List Nat} {w : XW} {S T : ZS} (hU : zU ks w S T) {a0 : Int} (h0 : yrg a0) : zOut l D tA ex sc xm103 [.inr (.inr (1, 0)), .inl (a0, a0)] ks w false S T := by
  exact zout (yall 103 xm103 _ rfl (yct_of (L := yD505) (i := 409) (d := yD_96) rfl)) (by decide +kernel) ⟨_, _, rfl, Or.inr ⟨0, rfl, hU.W.2.1⟩, _, _, rfl, ytop_in h0, rfl⟩ hU
set_option maxRecDepth 4000 in
theorem zx_108 {ks : List Nat} {w : XW} {S T : ZS} (hU : zU ks w S T) {a0 a1 : Int} (h0 : yrg a0) (h1 : yrg a1) : zOut l D tA ex sc xm108 [.inr (.inr (1, 0)), .inl (a0, a0), .inl (a1, a1)] ks w false S T := by
  exact zout (yall 108 xm108 _ rfl (yct_of (L := yD505) (i := 408) (d := yD_97) rfl)) (by decide +kernel) ⟨_, _, rfl, Or.inr ⟨0, rfl, hU.W.2.1⟩, _, _, rfl, ytop_in h0, _, _, rfl, ytop_in h1, rfl⟩ hU
set_option maxRecDepth 4000 in
theorem zx_109 {ks : List Nat} {w : XW} {S T : ZS} (hU : zU ks w S T) {a0 a1 : Int} (h0 : yrg a0) (h1 : yrg a1) : zOut l D tA ex sc xm109 [.inr (.inr (1, 0)), .inl (a0, a0), .inl (a1, a1)] ks w false S T := by
  exact zout (yall 109 xm109 _ rfl (yct_of (L := yD505) (i := 407) (d := yD_98) rfl)) (by decide +kernel) ⟨_, _, rfl, Or.inr ⟨0, rfl, hU.W.2.1⟩, _, _, rfl, ytop_in h0, _, _, rfl, ytop_in h1, rfl⟩ hU
set_option maxRecDepth 4000 in
theorem zx_110 {ks : List Nat} {w : XW} {S T : ZS} (hU : zU ks w S T) {a0 : Int} (h0 : yrg a0) : zOut l D tA ex sc xm110 [.inr (.inr (1, 0)), .inl (a0, a0)] ks w false S T := by
  exact zout (yall 110 xm110 _ rfl (yct_of (L := yD505) (i := 405) (d := yD_100) rfl)) (by decide +kernel) ⟨_, _, rfl, Or.inr ⟨0, rfl, hU.W.2.1⟩, _, _, rfl, ytop_in h0, rfl⟩ hU
set_option maxRecDepth 4000 in
theorem zx_112 {ks : List Nat} {w : XW} {S T : ZS} (hU : zU ks w S T) {a0 a1 a2 : Int} (h0 : yrg a0) (h1 : yrg a1) (h2 : yrg a2) : zOut l D tA ex sc xm112 [.inr (.inr (1, 0)), .inl (a0, a0), .inl (a1, a1), .inl (a2, a2)] ks w false S T := by
  exact zout (yall 112 xm112 _ rfl (yct_of (L := yD505) (i := 402) (d := yD_103) rfl)) (by decide +kernel) ⟨_, _, rfl, Or.inr ⟨0, rfl, hU.W.2.1⟩, _, _, rfl, ytop_in h0, _, _, rfl, ytop_in h1, _, _, rfl, ytop_in h2, rfl⟩ hU
set_option maxRecDepth 4000 in
theorem zx_115 {ks : List Nat} {w : XW} {S T : ZS} (hU : zU ks w S T) {a0 : Int} (h0 : yrg a0) : zOut l D tA ex sc xm115 [.inr (.inr (1, 0)), .inl (a0, a0)] ks w false S T := by
  exact zout (yall 115 xm115 _ rfl (yct_of (L := yD505) (i := 401) (d := yD_104) rfl)) (by decide +kernel) ⟨_, _, rfl, Or.inr ⟨0, rfl, hU.W.2.1⟩, _, _, rfl, ytop_in h0, rfl⟩ hU
set_option maxRecDepth 4000 in
theorem zx_116 {ks : List Nat} {w : XW} {S T : ZS} (hU : zU ks w S T) {a0 a1 : Int} (h0 : yrg a0) (h1 : yrg a1) : zOut l D tA ex sc xm116 [.inr (.inr (1, 0)), .inl (a0, a0), .inl (a1, a1)] ks w false S T := by
  obtain ⟨lo, hi, C, c1, c2, c3, c4⟩ := ypl_116 a0 h0
  exact zout c1 c3 (by rw [c2]; exact ⟨_, _, rfl, Or.inr ⟨0, rfl, hU.W.2.1⟩, _, _, rfl, ⟨a0, rfl, c4.1, c4.2, h0.1, h0.2⟩, _, _, rfl, ytop_in h1, rfl⟩) hU
set_option maxRecDepth 4000 in
theorem zx_128 {ks : List Nat} {w : XW} {S T : ZS} (hU : zU ks w S T) {a0 a1 : Int} (h0 : yrg a0) (h1 : yrg a1) : zOut l D tA ex sc xm128 [.inr (.inr (1, 0)), .inl (a0, a0), .inl (a1, a1)] ks w false S T := by
  exact zout (yall 128 xm128 _ rfl (yct_of (L := yD505) (i := 253) (d := yD_252) rfl)) (by decide +kernel) ⟨_, _, rfl, Or.inr ⟨0, rfl, hU.W.2.1⟩, _, _, rfl, ytop_in h0, _, _, rfl, ytop_in h1, rfl⟩ hU
set_option maxRecDepth 4000 in
theorem zx_135 {ks : List Nat} {w : XW} {S T : ZS} (hU : zU ks w S T) {a0 a1 a2 : Int} (h0 : yrg a0) (h1 : yrg a1) (h2 : yrg a2) : zOut l D tA ex sc xm135 [.inr (.inr (1, 0)), .inl (a0, a0), .inl (a1, a1), .inl (a2, a2)] ks w false S T := by
  exact zout (yall 135 xm135 _ rfl (yct_of (L := yD505) (i := 246) (d := yD_259) rfl)) (by decide +kernel) ⟨_, _, rfl, Or.inr ⟨0, rfl, hU.W.2.1⟩, _, _, rfl, ytop_in h0, _, _, rfl, ytop_in h1, _, _, rfl, ytop_in h2, rfl⟩ hU
set_option maxRecDepth 4000 in
theorem zx_142 {ks : List Nat} {w : XW} {S T : ZS} (hU : zU ks w S T)  : zOut l D tA ex sc xm142 [.inr (.inr (1, 0))] ks w false S T := by
  exact zout (yall 142 xm142 _ rfl (yct_of (L := yD505) (i := 245) (d := yD_260) rfl)) (by decide +kernel) ⟨_, _, rfl, Or.inr ⟨0, rfl, hU.W.2.1⟩, rfl⟩ hU
set_option maxRecDepth 4000 in
theorem zx_143 {ks : List Nat} {w : XW} {S T : ZS} (hU : zU ks w S T)  : zOut l D tA ex sc xm143 [.inr (.inr (1, 0))] ks w true S T := by
  exact zout (yall 143 xm143 _ rfl (yct_of (L := yD505) (i := 244) (d := yD_261) rfl)) (by decide +kernel) ⟨_, _, rfl, Or.inr ⟨0, rfl, hU.W.2.1⟩, rfl⟩ hU
set_option maxRecDepth 4000 in
theorem zx_144 {ks : List Nat} {w : XW} {S T : ZS} (hU : zU ks w S T)  : zOut l D tA ex sc xm144 [.inr (.inr (1, 0))] ks w true S T := by
  exact zout (yall 144 xm144 _ rfl (yct_of (L := yD505) (i := 243) (d := yD_262) rfl)) (by decide +kernel) ⟨_, _, rfl, Or.inr ⟨0, rfl, hU.W.2.1⟩, rfl⟩ hU
set_option maxRecDepth 4000 in
theorem zx_145 {ks : List Nat} {w : XW} {S T : ZS} (hU : zU ks w S T)  : zOut l D tA ex sc xm145 [.inr (.inr (1, 0))] ks w true S T := by
  exact zout (yall 145 xm145 _ rfl (yct_of (L := yD505) (i := 242) (d := yD_263) rfl)) (by decide +kernel) ⟨_, _, rfl, Or.inr ⟨0, rfl, hU.W.2.1⟩, rfl⟩ hU
set_option maxRecDepth 4000 in
theorem zx_146 {ks : List Nat} {w : XW} {S T : ZS} (hU : zU ks w S T) {a0 : Int} (h0 : yrg a0) : zOut l D tA ex sc xm146 [.inr (.inr (1, 0)), .inl (a0, a0)] ks w false S T := by
  exact zout (yall 146 xm146 _ rfl (yct_of (L := yD505) (i := 237) (d := yD_268) rfl)) (by decide +kernel) ⟨_, _, rfl, Or.inr ⟨0, rfl, hU.W.2.1⟩, _, _, rfl, ytop_in h0, rfl⟩ hU
set_option maxRecDepth 4000 in
theorem zx_150 {ks : List Nat} {w : XW} {S T : ZS} (hU : zU ks w S T)  : zOut l D tA ex sc xm150 [.inr (.inr (1, 0))] ks w false S T := by
  exact zout (yall 150 xm150 _ rfl (yct_of (L := yD505) (i := 236) (d := yD_269) rfl)) (by decide +kernel) ⟨_, _, rfl, Or.inr ⟨0, rfl, hU.W.2.1⟩, rfl⟩ hU
set_option maxRecDepth 4000 in
theorem zx_151 {ks : List Nat} {w : XW} {S T : ZS} (hU : zU ks w S T) {a0 : Int} (h0 : yrg a0) : zOut l D tA ex sc xm151 [.inr (.inr (1, 0)), .inl (a0, a0)] ks w false S T := by
  exact zout (yall 151 xm151 _ rfl (yct_of (L := yD505) (i := 235) (d := yD_270) rfl)) (by decide +kernel) ⟨_, _, rfl, Or.inr ⟨0, rfl, hU.W.2.1⟩, _, _, rfl, ytop_in h0, rfl⟩ hU
set_option maxRecDepth 4000 in
theorem zx_152 {ks : List Nat} {w : XW} {S T : ZS} (hU : zU ks w S T)  : zOut l D tA ex sc xm152 [.inr (.inr (1, 0))] ks w true S T := by
  exact zout (yall 152 xm152 _ rfl (yct_of (L := yD505) (i := 229) (d := yD_276) rfl)) (by decide +kernel) ⟨_, _, rfl, Or.inr ⟨0, rfl, hU.W.2.1⟩, rfl⟩ hU
set_option maxRecDepth 4000 in
theorem zx_158 {ks : List Nat} {w : XW} {S T : ZS} (hU : zU ks w S T) {a0 a1 : Int} (h0 : yrg a0) (h1 : yrg a1) : zOut l D tA ex sc xm158 [.inr (.inr (1, 57)), .inl (a0, a0), .inl (a1, a1)] ks w false S (zAnS 6 0 0 T a0 a1) := by
  exact zOut_of (zm_row hU h1)
set_option maxRecDepth 4000 in
theorem zx_162 {ks : List Nat} {w : XW} {S T : ZS} (hU : zU ks w S T) {a0 a1 a2 : Int} (h0 : yrg a0) (h1 : yrg a1) (h2 : yrg a2) : zOut l D tA ex sc xm162 [.inr (.inr (1, 57)), .inl (a0, a0), .inl (a1, a1), .inl (a2, a2)] ks w false S (zLyS 6 0 T a0 a1 a2) := by
  exact zOut_of (zm_lay hU h1 h2)
set_option maxRecDepth 4000 in
theorem zx_165 {ks : List Nat} {w : XW} {S T : ZS} (hU : zU ks w S T) {a0 : Int} (h0 : yrg a0) : zOut l D tA ex sc xm165 [.inr (.inr (1, 57)), .inl (a0, a0)] ks w false S (zTrS T a0) := by
  exact zOut_of (zm_tear hU )
set_option maxRecDepth 4000 in
theorem zx_166 {ks : List Nat} {w : XW} {S T : ZS} (hU : zU ks w S T) {a0 a1 a2 a3 a4 : Int} (h0 : yrg a0) (h1 : yrg a1) (h2 : yrg a2) (h3 : yrg a3) (h4 : yrg a4) : zOut l D tA ex sc xm166 [.inr (.inr (1, 57)), .inl (a0, a0), .inl (a1, a1), .inl (a2, a2), .inl (a3, a3), .inl (a4, a4)] ks w false S (zCpS T a0 a1 a2 a3 a4) := by
  exact zOut_of (zm_copy hU h1 h3 h4)
set_option maxRecDepth 4000 in
theorem zx_167 {ks : List Nat} {w : XW} {S T : ZS} (hU : zU ks w S T) {a0 : Int} (h0 : yrg a0) : zOut l D tA ex sc xm167 [.inr (.inr (1, 57)), .inl (a0, a0)] ks w false S T := by
  exact zout (yall 167 xm167 _ rfl (yct_of (L := yD505) (i := 218) (d := yD_287) rfl)) (by decide +kernel) ⟨_, _, rfl, Or.inr ⟨57, rfl, hU.W.2.2.1⟩, _, _, rfl, ytop_in h0, rfl⟩ hU
set_option maxRecDepth 4000 in
theorem zx_169 {ks : List Nat} {w : XW} {S T : ZS} (hU : zU ks w S T) {a0 a1 : Int} (h0 : yrg a0) (h1 : yrg a1) : zOut l D tA ex sc xm169 [.inr (.inr (1, 57)), .inl (a0, a0), .inl (a1, a1)] ks w false S (zAnS 4 6 32 T a0 a1) := by
  exact zOut_of (zm_text hU h1)
set_option maxRecDepth 4000 in
theorem zx_171 {ks : List Nat} {w : XW} {S T : ZS} (hU : zU ks w S T) {a0 a1 a2 : Int} (h0 : yrg a0) (h1 : yrg a1) (h2 : yrg a2) : zOut l D tA ex sc xm171 [.inr (.inr (1, 57)), .inl (a0, a0), .inl (a1, a1), .inl (a2, a2)] ks w false S (zLyS 4 6 T a0 a1 (zb8 a2)) := by
  exact zOut_of (zm_put hU h1 h2)
set_option maxRecDepth 4000 in
theorem zx_173 {ks : List Nat} {w : XW} {S T : ZS} (hU : zU ks w S T) {a0 a1 : Int} (h0 : yrg a0) (h1 : 0 ≤ a1 ∧ a1 ≤ 1) : zOut l D tA ex sc xm173 [.inr (.inr (1, 57)), .inl (a0, a0), .inl (a1, a1)] ks w false S T := by
  exact zout (yall 173 xm173 _ rfl (yct_of (L := yD505) (i := 211) (d := yD_294) rfl)) (by decide +kernel) ⟨_, _, rfl, Or.inr ⟨57, rfl, hU.W.2.2.1⟩, _, _, rfl, ytop_in h0, _, _, rfl, ⟨a1, rfl, Int.le_trans (by decide) h1.1, Int.le_trans h1.2 (by decide), by omega, by omega⟩, rfl⟩ hU
set_option maxRecDepth 4000 in
theorem zx_176 {ks : List Nat} {w : XW} {S T : ZS} (hU : zU ks w S T) {a0 a1 a2 a3 : Int} (h0 : yrg a0) (h1 : yrg a1) (h2 : yrg a2) (h3 : yrg a3) : zOut l D tA ex sc xm176 [.inr (.inr (1, 57)), .inl (a0, a0), .inl (a1, a1), .inl (a2, a2), .inl (a3, a3)] ks w false S T := by
  exact zout (yall 176 xm176 _ rfl (yct_of (L := yD505) (i := 208) (d := yD_297) rfl)) (by decide +kernel) ⟨_, _, rfl, Or.inr ⟨57, rfl, hU.W.2.2.1⟩, _, _, rfl, ytop_in h0, _, _, rfl, ytop_in h1, _, _, rfl, ytop_in h2, _, _, rfl, ytop_in h3, rfl⟩ hU
set_option maxRecDepth 4000 in
theorem zx_179 {ks : List Nat} {w : XW} {S T : ZS} (hU : zU ks w S T) {a0 a1 : Int} (h0 : yrg a0) (h1 : yrg a1) : zOut l D tA ex sc xm179 [.inr (.inr (1, 57)), .inl (a0, a0), .inl (a1, a1)] ks w false S T := by
  exact zout (yall 179 xm179 _ rfl (yct_of (L := yD505) (i := 206) (d := yD_299) rfl)) (by decide +kernel) ⟨_, _, rfl, Or.inr ⟨57, rfl, hU.W.2.2.1⟩, _, _, rfl, ytop_in h0, _, _, rfl, ytop_in h1, rfl⟩ hU
set_option maxRecDepth 4000 in
theorem zx_181 {ks : List Nat} {w : XW} {S T : ZS} (hU : zU ks w S T) {a0 a1 : Int} (h0 : yrg a0) (h1 : yrg a1) : zOut l D tA ex sc xm181 [.inr (.inr (1, 57)), .inl (a0, a0), .inl (a1, a1)] ks w false S T := by
  exact zout (yall 181 xm181 _ rfl (yct_of (L := yD505) (i := 205) (d := yD_300) rfl)) (by decide +kernel) ⟨_, _, rfl, Or.inr ⟨57, rfl, hU.W.2.2.1⟩, _, _, rfl, ytop_in h0, _, _, rfl, ytop_in h1, rfl⟩ hU
set_option maxRecDepth 4000 in
theorem zx_182 {ks : List Nat} {w : XW} {S T : ZS} (hU : zU ks w S T) {a0 : Int} (h0 : yrg a0) : zOut l D tA ex sc xm182 [.inr (.inr (1, 57)), .inl (a0, a0)] ks w false S T := by
  exact zout (yall 182 xm182 _ rfl (yct_of (L := yD505) (i := 204) (d := yD_301) rfl)) (by decide +kernel) ⟨_, _, rfl, Or.inr ⟨57, rfl, hU.W.2.2.1⟩, _, _, rfl, ytop_in h0, rfl⟩ hU
set_option maxRecDepth 4000 in
theorem zx_183 {ks : List Nat} {w : XW} {S T : ZS} (hU : zU ks w S T) {a0 : Int} (h0 : yrg a0) : zOut l D tA ex sc xm183 [.inr (.inr (1, 57)), .inl (a0, a0)] ks w false S T := by
  exact zout (yall 183 xm183 _ rfl (yct_of (L := yD505) (i := 203) (d := yD_302) rfl)) (by decide +kernel) ⟨_, _, rfl, Or.inr ⟨57, rfl, hU.W.2.2.1⟩, _, _, rfl, ytop_in h0, rfl⟩ hU
set_option maxRecDepth 4000 in
theorem zx_184 {ks : List Nat} {w : XW} {S T : ZS} (hU : zU ks w S T) {a0 a1 : Int} (h0 : yrg a0) (h1 : yrg a1) : zOut l D tA ex sc xm184 [.inr (.inr (1, 57)), .inl (a0, a0), .inl (a1, a1)] ks w false S T := by
  exact zout (yall 184 xm184 _ rfl (yct_of (L := yD505) (i := 200) (d := yD_305) rfl)) (by decide +kernel) ⟨_, _, rfl, Or.inr ⟨57, rfl, hU.W.2.2.1⟩, _, _, rfl, ytop_in h0, _, _, rfl, ytop_in h1, rfl⟩ hU
set_option maxRecDepth 4000 in
theorem zx_187 {ks : List Nat} {w : XW} {S T : ZS} (hU : zU ks w S T) {a0 a1 a2 a3 : Int} (h0 : yrg a0) (h1 : yrg a1) (h2 : yrg a2) (h3 : yrg a3) : zOut l D tA ex sc xm187 [.inr (.inr (1, 57)), .inl (a0, a0), .inl (a1, a1), .inl (a2, a2), .inl (a3, a3)] ks w false S T := by
  exact zout (yall 187 xm187 _ rfl (yct_of (L := yD505) (i := 198) (d := yD_307) rfl)) (by decide +kernel) ⟨_, _, rfl, Or.inr ⟨57, rfl, hU.W.2.2.1⟩, _, _, rfl, ytop_in h0, _, _, rfl, ytop_in h1, _, _, rfl, ytop_in h2, _, _, rfl, ytop_in h3, rfl⟩ hU
set_option maxRecDepth 4000 in
theorem zx_189 {ks : List Nat} {w : XW} {S T : ZS} (hU : zU ks w S T) {a0 a1 : Int} (h0 : yrg a0) (h1 : yrg a1) : zOut l D tA ex sc xm189 [.inr (.inr (1, 57)), .inl (a0, a0), .inl (a1, a1)] ks w false S T := by
  exact zout (yall 189 xm189 _ rfl (yct_of (L := yD505) (i := 194) (d := yD_311) rfl)) (by decide +kernel) ⟨_, _, rfl, Or.inr ⟨57, rfl, hU.W.2.2.1⟩, _, _, rfl, ytop_in h0, _, _, rfl, ytop_in h1, rfl⟩ hU
set_option maxRecDepth 4000 in
theorem zx_194 {ks : List Nat} {w : XW} {S T : ZS} (hU : zU ks w S T) {a0 a1 : Int} (h0 : yrg a0) (h1 : yrg a1) : zOut l D tA ex sc xm194 [.inr (.inr (1, 57)), .inl (a0, a0), .inl (a1, a1)] ks w false S T := by
  exact zout (yall 194 xm194 _ rfl (yct_of (L := yD505) (i := 193) (d := yD_312) rfl)) (by decide +kernel) ⟨_, _, rfl, Or.inr ⟨57, rfl, hU.W.2.2.1⟩, _, _, rfl, ytop_in h0, _, _, rfl, ytop_in h1, rfl⟩ hU
set_option maxRecDepth 4000 in
theorem zx_195 {ks : List Nat} {w : XW} {S T : ZS} (hU : zU ks w S T) {a0 : Int} (h0 : yrg a0) : zOut l D tA ex sc xm195 [.inr (.inr (1, 57)), .inl (a0, a0)] ks w false S T := by
  exact zout (yall 195 xm195 _ rfl (yct_of (L := yD505) (i := 192) (d := yD_313) rfl)) (by decide +kernel) ⟨_, _, rfl, Or.inr ⟨57, rfl, hU.W.2.2.1⟩, _, _, rfl, ytop_in h0, rfl⟩ hU
set_option maxRecDepth 4000 in
theorem zx_196 {ks : List Nat} {w : XW} {S T : ZS} (hU : zU ks w S T) {a0 a1 : Int} (h0 : yrg a0) (h1 : yrg a1) : zOut l D tA ex sc xm196 [.inr (.inr (1, 57)), .inl (a0, a0), .inl (a1, a1)] ks w false S T := by
  exact zout (yall 196 xm196 _ rfl (yct_of (L := yD505) (i := 190) (d := yD_315) rfl)) (by decide +kernel) ⟨_, _, rfl, Or.inr ⟨57, rfl, hU.W.2.2.1⟩, _, _, rfl, ytop_in h0, _, _, rfl, ytop_in h1, rfl⟩ hU
set_option maxRecDepth 4000 in
theorem zx_198 {ks : List Nat} {w : XW} {S T : ZS} (hU : zU ks w S T)  : zOut l D tA ex sc xm198 [.inr (.inr (1, 57))] ks w false S T := by
  exact zout (yall 198 xm198 _ rfl (yct_of (L := yD505) (i := 181) (d := yD_324) rfl)) (by decide +kernel) ⟨_, _, rfl, Or.inr ⟨57, rfl, hU.W.2.2.1⟩, rfl⟩ hU
set_option maxRecDepth 4000 in
theorem zx_207 {ks : List Nat} {w : XW} {S T : ZS} (hU : zU ks w S T) {a0 : Int} (h0 : yrg a0) : zOut l D tA ex sc xm207 [.inr (.inr (1, 57)), .inl (a0, a0)] ks w false S T := by
  exact zout (yall 207 xm207 _ rfl (yct_of (L := yD505) (i := 180) (d := yD_325) rfl)) (by decide +kernel) ⟨_, _, rfl, Or.inr ⟨57, rfl, hU.W.2.2.1⟩, _, _, rfl, ytop_in h0, rfl⟩ hU
set_option maxRecDepth 4000 in
theorem zx_208 {ks : List Nat} {w : XW} {S T : ZS} (hU : zU ks w S T) {a0 a1 : Int} (h0 : yrg a0) (h1 : yrg a1) : zOut l D tA ex sc xm208 [.inr (.inr (1, 57)), .inl (a0, a0), .inl (a1, a1)] ks w false S T := by
  exact zout (yall 208 xm208 _ rfl (yct_of (L := yD505) (i := 177) (d := yD_328) rfl)) (by decide +kernel) ⟨_, _, rfl, Or.inr ⟨57, rfl, hU.W.2.2.1⟩, _, _, rfl, ytop_in h0, _, _, rfl, ytop_in h1, rfl⟩ hU
set_option maxRecDepth 4000 in
theorem zx_211 {ks : List Nat} {w : XW} {S T : ZS} (hU : zU ks w S T) {a0 : Int} (h0 : yrg a0) : zOut l D tA ex sc xm211 [.inr (.inr (1, 57)), .inl (a0, a0)] ks w false S T := by
  exact zout (yall 211 xm211 _ rfl (yct_of (L := yD505) (i := 176) (d := yD_329) rfl)) (by decide +kernel) ⟨_, _, rfl, Or.inr ⟨57, rfl, hU.W.2.2.1⟩, _, _, rfl, ytop_in h0, rfl⟩ hU
set_option maxRecDepth 4000 in
theorem zx_212 {ks : List Nat} {w : XW} {S T : ZS} (hU : zU ks w S T) {a0 : Int} (h0 : yrg a0) : zOut l D tA ex sc xm212 [.inr (.inr (1, 57)), .inl (a0, a0)] ks w false S T := by
  exact zout (yall 212 xm212 _ rfl (yct_of (L := yD505) (i := 175) (d := yD_330) rfl)) (by decide +kernel) ⟨_, _, rfl, Or.inr ⟨57, rfl, hU.W.2.2.1⟩, _, _, rfl, ytop_in h0, rfl⟩ hU
set_option maxRecDepth 4000 in
theorem zx_213 {ks : List Nat} {w : XW} {S T : ZS} (hU : zU ks w S T) {a0 a1 a2 : Int} (h0 : yrg a0) (h1 : yrg a1) (h2 : yrg a2) : zOut l D tA ex sc xm213 [.inr (.inr (1, 57)), .inl (a0, a0), .inl (a1, a1), .inl (a2, a2)] ks w false S T := by
  exact zout (yall 213 xm213 _ rfl (yct_of (L := yD505) (i := 173) (d := yD_332) rfl)) (by decide +kernel) ⟨_, _, rfl, Or.inr ⟨57, rfl, hU.W.2.2.1⟩, _, _, rfl, ytop_in h0, _, _, rfl, ytop_in h1, _, _, rfl, ytop_in h2, rfl⟩ hU
set_option maxRecDepth 4000 in
theorem zx_215 {ks : List Nat} {w : XW} {S T : ZS} (hU : zU ks w S T) {a0 a1 : Int} (h0 : yrg a0) (h1 : yrg a1) : zOut l D tA ex sc xm215 [.inr (.inr (1, 57)), .inl (a0, a0), .inl (a1, a1)] ks w false S T := by
  exact zout (yall 215 xm215 _ rfl (yct_of (L := yD505) (i := 170) (d := yD_335) rfl)) (by decide +kernel) ⟨_, _, rfl, Or.inr ⟨57, rfl, hU.W.2.2.1⟩, _, _, rfl, ytop_in h0, _, _, rfl, ytop_in h1, rfl⟩ hU
set_option maxRecDepth 4000 in
theorem zx_218 {ks : List Nat} {w : XW} {S T : ZS} (hU : zU ks w S T) {a0 a1 : Int} (h0 : yrg a0) (h1 : yrg a1) : zOut l D tA ex sc xm218 [.inr (.inr (1, 57)), .inl (a0, a0), .inl (a1, a1)] ks w false S T := by
  exact zout (yall 218 xm218 _ rfl (yct_of (L := yD505) (i := 169) (d := yD_336) rfl)) (by decide +kernel) ⟨_, _, rfl, Or.inr ⟨57, rfl, hU.W.2.2.1⟩, _, _, rfl, ytop_in h0, _, _, rfl, ytop_in h1, rfl⟩ hU
set_option maxRecDepth 4000 in
theorem zx_219 {ks : List Nat} {w : XW} {S T : ZS} (hU : zU ks w S T) {a0 a1 : Int} (h0 : yrg a0) (h1 : yrg a1) : zOut l D tA ex sc xm219 [.inr (.inr (1, 57)), .inl (a0, a0), .inl (a1, a1)] ks w false S T := by
  exact zout (yall 219 xm219 _ rfl (yct_of (L := yD505) (i := 168) (d := yD_337) rfl)) (by decide +kernel) ⟨_, _, rfl, Or.inr ⟨57, rfl, hU.W.2.2.1⟩, _, _, rfl, ytop_in h0, _, _, rfl, ytop_in h1, rfl⟩ hU
set_option maxRecDepth 4000 in
theorem zx_220 {ks : List Nat} {w : XW} {S T : ZS} (hU : zU ks w S T) {a0 a1 a2 a3 : Int} (h0 : yrg a0) (h1 : yrg a1) (h2 : yrg a2) (h3 : yrg a3) : zOut l D tA ex sc xm220 [.inr (.inr (1, 57)), .inl (a0, a0), .inl (a1, a1), .inl (a2, a2), .inl (a3, a3)] ks w false S T := by
  exact zout (yall 220 xm220 _ rfl (yct_of (L := yD505) (i := 162) (d := yD_343) rfl)) (by decide +kernel) ⟨_, _, rfl, Or.inr ⟨57, rfl, hU.W.2.2.1⟩, _, _, rfl, ytop_in h0, _, _, rfl, ytop_in h1, _, _, rfl, ytop_in h2, _, _, rfl, ytop_in h3, rfl⟩ hU
set_option maxRecDepth 4000 in
theorem zx_224 {ks : List Nat} {w : XW} {S T : ZS} (hU : zU ks w S T) {a0 a1 a2 : Int} (h0 : yrg a0) (h1 : yrg a1) (h2 : yrg a2) : zOut l D tA ex sc xm224 [.inr (.inr (1, 57)), .inl (a0, a0), .inl (a1, a1), .inl (a2, a2)] ks w false S T := by
  exact zout (yall 224 xm224 _ rfl (yct_of (L := yD505) (i := 161) (d := yD_344) rfl)) (by decide +kernel) ⟨_, _, rfl, Or.inr ⟨57, rfl, hU.W.2.2.1⟩, _, _, rfl, ytop_in h0, _, _, rfl, ytop_in h1, _, _, rfl, ytop_in h2, rfl⟩ hU
set_option maxRecDepth 4000 in
theorem zx_225 {ks : List Nat} {w : XW} {S T : ZS} (hU : zU ks w S T) {a0 : Int} (h0 : yrg a0) : zOut l D tA ex sc xm225 [.inr (.inr (1, 57)), .inl (a0, a0)] ks w false S T := by
  exact zout (yall 225 xm225 _ rfl (yct_of (L := yD505) (i := 158) (d := yD_347) rfl)) (by decide +kernel) ⟨_, _, rfl, Or.inr ⟨57, rfl, hU.W.2.2.1⟩, _, _, rfl, ytop_in h0, rfl⟩ hU
set_option maxRecDepth 4000 in
theorem zx_228 {ks : List Nat} {w : XW} {S T : ZS} (hU : zU ks w S T) {a0 a1 : Int} (h0 : yrg a0) (h1 : yrg a1) : zOut l D tA ex sc xm228 [.inr (.inr (1, 57)), .inl (a0, a0), .inl (a1, a1)] ks w false S T := by
  exact zout (yall 228 xm228 _ rfl (yct_of (L := yD505) (i := 157) (d := yD_348) rfl)) (by decide +kernel) ⟨_, _, rfl, Or.inr ⟨57, rfl, hU.W.2.2.1⟩, _, _, rfl, ytop_in h0, _, _, rfl, ytop_in h1, rfl⟩ hU
set_option maxRecDepth 4000 in
theorem zx_229 {ks : List Nat} {w : XW} {S T : ZS} (hU : zU ks w S T) {a0 a1 : Int} (h0 : yrg a0) (h1 : yrg a1) : zOut l D tA ex sc xm229 [.inr (.inr (1, 57)), .inl (a0, a0), .inl (a1, a1)] ks w false S T := by
  exact zout (yall 229 xm229 _ rfl (yct_of (L := yD505) (i := 156) (d := yD_349) rfl)) (by decide +kernel) ⟨_, _, rfl, Or.inr ⟨57, rfl, hU.W.2.2.1⟩, _, _, rfl, ytop_in h0, _, _, rfl, ytop_in h1, rfl⟩ hU
set_option maxRecDepth 4000 in
theorem zx_230 {ks : List Nat} {w : XW} {S T : ZS} (hU : zU ks w S T) {a0 : Int} (h0 : yrg a0) : zOut l D tA ex sc xm230 [.inr (.inr (1, 57)), .inl (a0, a0)] ks w false S T := by
  exact zout (yall 230 xm230 _ rfl (yct_of (L := yD505) (i := 155) (d := yD_350) rfl)) (by decide +kernel) ⟨_, _, rfl, Or.inr ⟨57, rfl, hU.W.2.2.1⟩, _, _, rfl, ytop_in h0, rfl⟩ hU
set_option maxRecDepth 4000 in
theorem zx_231 {ks : List Nat} {w : XW} {S T : ZS} (hU : zU ks w S T) {a0 a1 a2 : Int} (h0 : yrg a0) (h1 : yrg a1) (h2 : yrg a2) : zOut l D tA ex sc xm231 [.inr (.inr (1, 57)), .inl (a0, a0), .inl (a1, a1), .inl (a2, a2)] ks w false S T := by
  exact zout (yall 231 xm231 _ rfl (yct_of (L := yD505) (i := 152) (d := yD_353) rfl)) (by decide +kernel) ⟨_, _, rfl, Or.inr ⟨57, rfl, hU.W.2.2.1⟩, _, _, rfl, ytop_in h0, _, _, rfl, ytop_in h1, _, _, rfl, ytop_in h2, rfl⟩ hU
set_option maxRecDepth 4000 in
theorem zx_234 {ks : List Nat} {w : XW} {S T : ZS} (hU : zU ks w S T) {a0 : Int} (h0 : yrg a0) : zOut l D tA ex sc xm234 [.inr (.inr (1, 57)), .inl (a0, a0)] ks w false S T := by
  exact zout (yall 234 xm234 _ rfl (yct_of (L := yD505) (i := 150) (d := yD_355) rfl)) (by decide +kernel) ⟨_, _, rfl, Or.inr ⟨57, rfl, hU.W.2.2.1⟩, _, _, rfl, ytop_in h0, rfl⟩ hU
set_option maxRecDepth 4000 in
theorem zx_235 {ks : List Nat} {w : XW} {S T : ZS} (hU : zU ks w S T) {a0 a1 : Int} (h0 : yrg a0) (h1 : yrg a1) : zOut l D tA ex sc xm235 [.inr (.inr (1, 57)), .inl (a0, a0), .inl (a1, a1)] ks w false S T := by
  obtain ⟨lo, hi, C, c1, c2, c3, c4⟩ := ypl_235 a0 h0
  exact zout c1 c3 (by rw [c2]; exact ⟨_, _, rfl, Or.inr ⟨57, rfl, hU.W.2.2.1⟩, _, _, rfl, ⟨a0, rfl, c4.1, c4.2, h0.1, h0.2⟩, _, _, rfl, ytop_in h1, rfl⟩) hU
set_option maxRecDepth 4000 in
theorem zx_238 {ks : List Nat} {w : XW} {S T : ZS} (hU : zU ks w S T) {a0 a1 : Int} (h0 : yrg a0) (h1 : yrg a1) : zOut l D tA ex sc xm238 [.inr (.inr (1, 57)), .inl (a0, a0), .inl (a1, a1)] ks w false S T := by
  exact zout (yall 238 xm238 _ rfl (yct_of (L := yD505) (i := 17) (d := yD_488) rfl)) (by decide +kernel) ⟨_, _, rfl, Or.inr ⟨57, rfl, hU.W.2.2.1⟩, _, _, rfl, ytop_in h0, _, _, rfl, ytop_in h1, rfl⟩ hU
set_option maxRecDepth 4000 in
theorem zx_241 {ks : List Nat} {w : XW} {S T : ZS} (hU : zU ks w S T) {a0 a1 a2 : Int} (h0 : yrg a0) (h1 : yrg a1) (h2 : yrg a2) : zOut l D tA ex sc xm241 [.inr (.inr (1, 57)), .inl (a0, a0), .inl (a1, a1), .inl (a2, a2)] ks w false S T := by
  exact zout (yall 241 xm241 _ rfl (yct_of (L := yD505) (i := 15) (d := yD_490) rfl)) (by decide +kernel) ⟨_, _, rfl, Or.inr ⟨57, rfl, hU.W.2.2.1⟩, _, _, rfl, ytop_in h0, _, _, rfl, ytop_in h1, _, _, rfl, ytop_in h2, rfl⟩ hU
set_option maxRecDepth 4000 in
theorem zx_243 {ks : List Nat} {w : XW} {S T : ZS} (hU : zU ks w S T)  : zOut l D tA ex sc xm243 [.inr (.inr (1, 57))] ks w false S T := by
  exact zout (yall 243 xm243 _ rfl (yct_of (L := yD505) (i := 14) (d := yD_491) rfl)) (by decide +kernel) ⟨_, _, rfl, Or.inr ⟨57, rfl, hU.W.2.2.1⟩, rfl⟩ hU
set_option maxRecDepth 4000 in
theorem zx_244 {ks : List Nat} {w : XW} {S T : ZS} (hU : zU ks w S T)  : zOut l D tA ex sc xm244 [.inr (.inr (1, 57))] ks w true S T := by
  exact zout (yall 244 xm244 _ rfl (yct_of (L := yD505) (i := 13) (d := yD_492) rfl)) (by decide +kernel) ⟨_, _, rfl, Or.inr ⟨57, rfl, hU.W.2.2.1⟩, rfl⟩ hU
set_option maxRecDepth 4000 in
theorem zx_245 {ks : List Nat} {w : XW} {S T : ZS} (hU : zU ks w S T)  : zOut l D tA ex sc xm245 [.inr (.inr (1, 57))] ks w true S T := by
  exact zout (yall 245 xm245 _ rfl (yct_of (L := yD505) (i := 12) (d := yD_493) rfl)) (by decide +kernel) ⟨_, _, rfl, Or.inr ⟨57, rfl, hU.W.2.2.1⟩, rfl⟩ hU
set_option maxRecDepth 4000 in
theorem zx_246 {ks : List Nat} {w : XW} {S T : ZS} (hU : zU ks w S T)  : zOut l D tA ex sc xm246 [.inr (.inr (1, 57))] ks w true S T := by
  exact zout (yall 246 xm246 _ rfl (yct_of (L := yD505) (i := 11) (d := yD_494) rfl)) (by decide +kernel) ⟨_, _, rfl, Or.inr ⟨57, rfl, hU.W.2.2.1⟩, rfl⟩ hU
set_option maxRecDepth 4000 in
theorem zx_247 {ks : List Nat} {w : XW} {S T : ZS} (hU : zU ks w S T) {a0 : Int} (h0 : yrg a0) : zOut l D tA ex sc xm247 [.inr (.inr (1, 57)), .inl (a0, a0)] ks w false S T := by
  exact zout (yall 247 xm247 _ rfl (yct_of (L := yD505) (i := 9) (d := yD_496) rfl)) (by decide +kernel) ⟨_, _, rfl, Or.inr ⟨57, rfl, hU.W.2.2.1⟩, _, _, rfl, ytop_in h0, rfl⟩ hU
set_option maxRecDepth 4000 in
theorem zx_249 {ks : List Nat} {w : XW} {S T : ZS} (hU : zU ks w S T)  : zOut l D tA ex sc xm249 [.inr (.inr (1, 57))] ks w false S T := by
  exact zout (yall 249 xm249 _ rfl (yct_of (L := yD505) (i := 8) (d := yD_497) rfl)) (by decide +kernel) ⟨_, _, rfl, Or.inr ⟨57, rfl, hU.W.2.2.1⟩, rfl⟩ hU
set_option maxRecDepth 4000 in
theorem zx_250 {ks : List Nat} {w : XW} {S T : ZS} (hU : zU ks w S T) {a0 : Int} (h0 : yrg a0) : zOut l D tA ex sc xm250 [.inr (.inr (1, 57)), .inl (a0, a0)] ks w false S T := by
  exact zout (yall 250 xm250 _ rfl (yct_of (L := yD505) (i := 7) (d := yD_498) rfl)) (by decide +kernel) ⟨_, _, rfl, Or.inr ⟨57, rfl, hU.W.2.2.1⟩, _, _, rfl, ytop_in h0, rfl⟩ hU
set_option maxRecDepth 4000 in
theorem zx_251 {ks : List Nat} {w : XW} {S T : ZS} (hU : zU ks w S T)  : zOut l D tA ex sc xm251 [.inr (.inr (1, 57))] ks w true S T := by
  exact zout (yall 251 xm251 _ rfl (yct_of (L := yD505) (i := 3) (d := yD_502) rfl)) (by decide +kernel) ⟨_, _, rfl, Or.inr ⟨57, rfl, hU.W.2.2.1⟩, rfl⟩ hU
end YL
