set_option maxRecDepth 100000 in
set_option maxHeartbeats 4000000 in
/-- what surrounds the law, out of its start -/
theorem xlaw_env {s : State} {b L : Nat} {xs : Nat → Int32} (hts : ∀ w ∈ lw_tbl, w.before #[Value.ref b] s = true) (hX : va_X b L xs s s.heap) (hbl : b < s.heap.size) (hL : L < 2 ^ 31) (hgv : (Jvm.Cond.and given_1 narrow_1).before #[Value.ref b] s = true) : ∃ (D : va_G) (tA : Nat → ClassId) (ex : List Nat), ex[5]? = some b ∧ ∀ sc : List XV, sc.length = L → (∀ (i : Nat) (x : XV), sc[i]? = some x → xv_in [] [] x (.int (xs i))) → XEnv D vwCl (tysX tA) ex (xSTX ++ [sc]) xSV xNW xNF (fun q : Nat => s.heap.size ≤ q) s := by
  have hA0 : ∀ a : Nat, a < s.heap.size → ¬ (fun q : Nat => s.heap.size ≤ q) a := fun a h => Nat.not_le.mpr h
  have hT : ∀ w ∈ xTs, w.before #[Value.ref b] s = true := fun w hw => hts w (List.mem_filter.mp hw).1
  have hs := flat_of_before _ hgv
  obtain ⟨c0, i0, hK0⟩ := u_known (C := RX0) (T := TX0) (N := 12) (n := 12) hT xu_0 (hT _ xw_44)
  obtain ⟨c1, i1, hK1⟩ := u_known (C := RX1) (T := TX1) (N := 4) (n := 4) hT xu_1 (hT _ xw_30)
  obtain ⟨c2, i2, hK2⟩ := u_known (C := RX2) (T := TX2) (N := 4) (n := 4) hT xu_2 (hT _ xw_314)
  obtain ⟨c3, i3, hK3⟩ := u_known (C := RX3) (T := TX3) (N := 4) (n := 4) hT xu_3 (hT _ xw_24)
  obtain ⟨c4, i4, hK4⟩ := u_known (C := RX4) (T := TX4) (N := 2) (n := 2) hT xu_4 (hT _ xw_39)
  obtain ⟨c5, i5, hK5⟩ := u_known (C := RX5) (T := TX5) (N := 1) (n := 1) hT xu_5 (hT _ xw_18)
  obtain ⟨c6, i6, hK6⟩ := u_known (C := RX6) (T := TX6) (N := 8) (n := 8) hT xu_6 (hT _ xw_5)
  obtain ⟨c7, i7, hK7⟩ := u_known (C := RX7) (T := TX7) (N := 2) (n := 2) hT xu_7 (hT _ xw_55)
  obtain ⟨c8, i8, hK8⟩ := u_known (C := RX8) (T := TX8) (N := 7) (n := 7) hT xu_8 (hT _ xw_353)
  obtain ⟨c9, i9, hK9⟩ := u_known (C := RX9) (T := TX9) (N := 19) (n := 19) hT xu_9 (hT _ xw_831)
  obtain ⟨c10, i10, hK10⟩ := u_known (C := RX10) (T := TX10) (N := 51) (n := 51) hT xu_10 (hT _ xw_836)
  obtain ⟨dC, dI, hKc⟩ : ∃ (dC : Nat → ClassId) (dI : Nat → Nat → Nat), ∀ (k : Nat) (q : vw_C), vwCl[k]? = some q → u_Kn s q.1 q.2.1 q.2.2 (dC k) (dI k) := by
    refine ⟨fun k => if k = 0 then c0 else if k = 1 then c1 else if k = 2 then c2 else if k = 3 then c3 else if k = 4 then c4 else if k = 5 then c5 else if k = 6 then c6 else if k = 7 then c7 else if k = 8 then c8 else if k = 9 then c9 else c10, fun k => if k = 0 then i0 else if k = 1 then i1 else if k = 2 then i2 else if k = 3 then i3 else if k = 4 then i4 else if k = 5 then i5 else if k = 6 then i6 else if k = 7 then i7 else if k = 8 then i8 else if k = 9 then i9 else i10, ?_⟩
    intro k q hq
    match k, hq with
    | 0, hq => cases hq; exact hK0
    | 1, hq => cases hq; exact hK1
    | 2, hq => cases hq; exact hK2
    | 3, hq => cases hq; exact hK3
    | 4, hq => cases hq; exact hK4
    | 5, hq => cases hq; exact hK5
    | 6, hq => cases hq; exact hK6
    | 7, hq => cases hq; exact hK7
    | 8, hq => cases hq; exact hK8
    | 9, hq => cases hq; exact hK9
    | 10, hq => cases hq; exact hK10
    | k + 11, hq => simp [vwCl] at hq
  obtain ⟨a0, r0, q0⟩ := x_arrP (fun C h => by cases h) (hT _ xw_1213)
  obtain ⟨a1, r1, q1⟩ := x_arrP (fun C h => by cases h) (hT _ xw_1214)
  obtain ⟨a2, r2, q2⟩ := x_arrP (fun C h => by cases h) (hT _ xw_1215)
  have o3 := hts (Cond.arrayOver (.object "IceBoats$Row")) (List.mem_of_getElem? (i := 100) (by decide +kernel))
  obtain ⟨a3, r3, q3⟩ := x_arrO o3
  have o4 := hts (Cond.arrayOver (.object "IceBoats$Boat")) (List.mem_of_getElem? (i := 155) (by decide +kernel))
  obtain ⟨a4, r4, q4⟩ := x_arrO o4
  have o5 := hts (Cond.arrayOver (.object "IceBoats$Word")) (List.mem_of_getElem? (i := 157) (by decide +kernel))
  obtain ⟨a5, r5, q5⟩ := x_arrO o5
  have o6 := hts (Cond.arrayOver (.object "IceBoats$Look")) (List.mem_of_getElem? (i := 159) (by decide +kernel))
  obtain ⟨a6, r6, q6⟩ := x_arrO o6
  have hK : va_K (dC, dI) vwCl (tysX (fun t => if t = 0 then a0 else if t = 1 then a1 else if t = 2 then a2 else if t = 3 then a3 else if t = 4 then a4 else if t = 5 then a5 else a6)) s := by
    refine ⟨hKc, fun k q hq => ?_⟩
    match k, hq with
    | 0, hq => cases hq; exact ⟨r0, q0⟩
    | 1, hq => cases hq; exact ⟨r1, q1⟩
    | 2, hq => cases hq; exact ⟨r2, q2⟩
    | 3, hq => cases hq; exact ⟨r3, q3⟩
    | 4, hq => cases hq; exact ⟨r4, q4⟩
    | 5, hq => cases hq; exact ⟨r5, q5⟩
    | 6, hq => cases hq; exact ⟨r6, q6⟩
    | k + 7, hq => simp [tysX] at hq
  obtain ⟨t0, hv0, hT0⟩ := va_Tof (args := #[Value.ref b]) (tm := (Term.static "IceBoats" "BOAT_KIND_ABOVE" "[I")) (ty := .int) (N := 7) (f := fun j => .int (([0, 0, 0, 2, 0, 4, 0] : List Int32).getD j 0)) (A := fun q : Nat => s.heap.size ≤ q) (by decide) (hs (Cond.arrayOf (Term.static "IceBoats" "BOAT_KIND_ABOVE" "[I") .int) (by decide +kernel)) (va_eqt (z := 7) (hs (Cond.eq (.length (Term.static "IceBoats" "BOAT_KIND_ABOVE" "[I")) (.int 7)) (by decide +kernel))) (fun j hj => by
    rcases (show j = 0 ∨ j = 1 ∨ j = 2 ∨ j = 3 ∨ j = 4 ∨ j = 5 ∨ j = 6 by omega) with rfl | rfl | rfl | rfl | rfl | rfl | rfl
    · exact va_eqt (hs (Cond.eq (.elem (Term.static "IceBoats" "BOAT_KIND_ABOVE" "[I") (.int 0)) (.int 0)) (by decide +kernel))
    · exact va_eqt (hs (Cond.eq (.elem (Term.static "IceBoats" "BOAT_KIND_ABOVE" "[I") (.int 1)) (.int 0)) (by decide +kernel))
    · exact va_eqt (hs (Cond.eq (.elem (Term.static "IceBoats" "BOAT_KIND_ABOVE" "[I") (.int 2)) (.int 0)) (by decide +kernel))
    · exact va_eqt (hs (Cond.eq (.elem (Term.static "IceBoats" "BOAT_KIND_ABOVE" "[I") (.int 3)) (.int 2)) (by decide +kernel))
    · exact va_eqt (hs (Cond.eq (.elem (Term.static "IceBoats" "BOAT_KIND_ABOVE" "[I") (.int 4)) (.int 0)) (by decide +kernel))
    · exact va_eqt (hs (Cond.eq (.elem (Term.static "IceBoats" "BOAT_KIND_ABOVE" "[I") (.int 5)) (.int 4)) (by decide +kernel))
    · exact va_eqt (hs (Cond.eq (.elem (Term.static "IceBoats" "BOAT_KIND_ABOVE" "[I") (.int 6)) (.int 0)) (by decide +kernel))
    ) hA0
  have hZ0 := va_Zof (args := #[Value.ref b]) (A := fun q : Nat => s.heap.size ≤ q) (hts (Cond.laysStatic "IceBoats" "BOAT_KIND_ABOVE" "[I") (List.mem_of_getElem? (i := 495) (by decide +kernel))) (hT _ xw_85) hv0 hA0
  obtain ⟨t1, hv1, hT1⟩ := va_Tof (args := #[Value.ref b]) (tm := (Term.static "IceBoats" "STEP_X" "[I")) (ty := .int) (N := 5) (f := fun j => .int (([0, 0, (-1), 1, 0] : List Int32).getD j 0)) (A := fun q : Nat => s.heap.size ≤ q) (by decide) (hs (Cond.arrayOf (Term.static "IceBoats" "STEP_X" "[I") .int) (by decide +kernel)) (va_eqt (z := 5) (hs (Cond.eq (.length (Term.static "IceBoats" "STEP_X" "[I")) (.int 5)) (by decide +kernel))) (fun j hj => by
    rcases (show j = 0 ∨ j = 1 ∨ j = 2 ∨ j = 3 ∨ j = 4 by omega) with rfl | rfl | rfl | rfl | rfl
    · exact va_eqt (hs (Cond.eq (.elem (Term.static "IceBoats" "STEP_X" "[I") (.int 0)) (.int 0)) (by decide +kernel))
    · exact va_eqt (hs (Cond.eq (.elem (Term.static "IceBoats" "STEP_X" "[I") (.int 1)) (.int 0)) (by decide +kernel))
    · exact va_eqt (hs (Cond.eq (.elem (Term.static "IceBoats" "STEP_X" "[I") (.int 2)) (.int (-1))) (by decide +kernel))
    · exact va_eqt (hs (Cond.eq (.elem (Term.static "IceBoats" "STEP_X" "[I") (.int 3)) (.int 1)) (by decide +kernel))
    · exact va_eqt (hs (Cond.eq (.elem (Term.static "IceBoats" "STEP_X" "[I") (.int 4)) (.int 0)) (by decide +kernel))
    ) hA0
  have hZ1 := va_Zof (args := #[Value.ref b]) (A := fun q : Nat => s.heap.size ≤ q) (hts (Cond.laysStatic "IceBoats" "STEP_X" "[I") (List.mem_of_getElem? (i := 529) (by decide +kernel))) (hT _ xw_85) hv1 hA0
  obtain ⟨t2, hv2, hT2⟩ := va_Tof (args := #[Value.ref b]) (tm := (Term.static "IceBoats" "STEP_Y" "[I")) (ty := .int) (N := 5) (f := fun j => .int (([0, (-1), 0, 0, 1] : List Int32).getD j 0)) (A := fun q : Nat => s.heap.size ≤ q) (by decide) (hs (Cond.arrayOf (Term.static "IceBoats" "STEP_Y" "[I") .int) (by decide +kernel)) (va_eqt (z := 5) (hs (Cond.eq (.length (Term.static "IceBoats" "STEP_Y" "[I")) (.int 5)) (by decide +kernel))) (fun j hj => by
    rcases (show j = 0 ∨ j = 1 ∨ j = 2 ∨ j = 3 ∨ j = 4 by omega) with rfl | rfl | rfl | rfl | rfl
    · exact va_eqt (hs (Cond.eq (.elem (Term.static "IceBoats" "STEP_Y" "[I") (.int 0)) (.int 0)) (by decide +kernel))
    · exact va_eqt (hs (Cond.eq (.elem (Term.static "IceBoats" "STEP_Y" "[I") (.int 1)) (.int (-1))) (by decide +kernel))
    · exact va_eqt (hs (Cond.eq (.elem (Term.static "IceBoats" "STEP_Y" "[I") (.int 2)) (.int 0)) (by decide +kernel))
    · exact va_eqt (hs (Cond.eq (.elem (Term.static "IceBoats" "STEP_Y" "[I") (.int 3)) (.int 0)) (by decide +kernel))
    · exact va_eqt (hs (Cond.eq (.elem (Term.static "IceBoats" "STEP_Y" "[I") (.int 4)) (.int 1)) (by decide +kernel))
    ) hA0
  have hZ2 := va_Zof (args := #[Value.ref b]) (A := fun q : Nat => s.heap.size ≤ q) (hts (Cond.laysStatic "IceBoats" "STEP_Y" "[I") (List.mem_of_getElem? (i := 531) (by decide +kernel))) (hT _ xw_85) hv2 hA0
  obtain ⟨t3, hv3, hT3⟩ := va_Tof (args := #[Value.ref b]) (tm := (Term.static "IceBoats" "WORD_KIND_ABOVE" "[I")) (ty := .int) (N := 6) (f := fun j => .int (([0, 0, 0, 0, 3, 3] : List Int32).getD j 0)) (A := fun q : Nat => s.heap.size ≤ q) (by decide) (hs (Cond.arrayOf (Term.static "IceBoats" "WORD_KIND_ABOVE" "[I") .int) (by decide +kernel)) (va_eqt (z := 6) (hs (Cond.eq (.length (Term.static "IceBoats" "WORD_KIND_ABOVE" "[I")) (.int 6)) (by decide +kernel))) (fun j hj => by
    rcases (show j = 0 ∨ j = 1 ∨ j = 2 ∨ j = 3 ∨ j = 4 ∨ j = 5 by omega) with rfl | rfl | rfl | rfl | rfl | rfl
    · exact va_eqt (hs (Cond.eq (.elem (Term.static "IceBoats" "WORD_KIND_ABOVE" "[I") (.int 0)) (.int 0)) (by decide +kernel))
    · exact va_eqt (hs (Cond.eq (.elem (Term.static "IceBoats" "WORD_KIND_ABOVE" "[I") (.int 1)) (.int 0)) (by decide +kernel))
    · exact va_eqt (hs (Cond.eq (.elem (Term.static "IceBoats" "WORD_KIND_ABOVE" "[I") (.int 2)) (.int 0)) (by decide +kernel))
    · exact va_eqt (hs (Cond.eq (.elem (Term.static "IceBoats" "WORD_KIND_ABOVE" "[I") (.int 3)) (.int 0)) (by decide +kernel))
    · exact va_eqt (hs (Cond.eq (.elem (Term.static "IceBoats" "WORD_KIND_ABOVE" "[I") (.int 4)) (.int 3)) (by decide +kernel))
    · exact va_eqt (hs (Cond.eq (.elem (Term.static "IceBoats" "WORD_KIND_ABOVE" "[I") (.int 5)) (.int 3)) (by decide +kernel))
    ) hA0
  have hZ3 := va_Zof (args := #[Value.ref b]) (A := fun q : Nat => s.heap.size ≤ q) (hts (Cond.laysStatic "IceBoats" "WORD_KIND_ABOVE" "[I") (List.mem_of_getElem? (i := 739) (by decide +kernel))) (hT _ xw_85) hv3 hA0
  obtain ⟨t4, hv4, hT4⟩ := va_Tof (args := #[Value.ref b]) (tm := (Term.static "IceBoats" "LETTER_BYTES" "[I")) (ty := .int) (N := 4) (f := fun j => .int (([72, 76, 87, 69] : List Int32).getD j 0)) (A := fun q : Nat => s.heap.size ≤ q) (by decide) (hs (Cond.arrayOf (Term.static "IceBoats" "LETTER_BYTES" "[I") .int) (by decide +kernel)) (va_eqt (z := 4) (hs (Cond.eq (.length (Term.static "IceBoats" "LETTER_BYTES" "[I")) (.int 4)) (by decide +kernel))) (fun j hj => by
    rcases (show j = 0 ∨ j = 1 ∨ j = 2 ∨ j = 3 by omega) with rfl | rfl | rfl | rfl
    · exact va_eqt (hs (Cond.eq (.elem (Term.static "IceBoats" "LETTER_BYTES" "[I") (.int 0)) (.int 72)) (by decide +kernel))
    · exact va_eqt (hs (Cond.eq (.elem (Term.static "IceBoats" "LETTER_BYTES" "[I") (.int 1)) (.int 76)) (by decide +kernel))
    · exact va_eqt (hs (Cond.eq (.elem (Term.static "IceBoats" "LETTER_BYTES" "[I") (.int 2)) (.int 87)) (by decide +kernel))
    · exact va_eqt (hs (Cond.eq (.elem (Term.static "IceBoats" "LETTER_BYTES" "[I") (.int 3)) (.int 69)) (by decide +kernel))
    ) hA0
  have hZ4 := va_Zof (args := #[Value.ref b]) (A := fun q : Nat => s.heap.size ≤ q) (hts (Cond.laysStatic "IceBoats" "LETTER_BYTES" "[I") (List.mem_of_getElem? (i := 799) (by decide +kernel))) (hT _ xw_85) hv4 hA0
  refine ⟨(dC, dI), _, [t0, t1, t2, t3, t4, b], rfl, fun sc hsc hin => ⟨hK, ?_, ?_, ?_, ?_, ?_⟩⟩
  · intro j a es ha he
    match j, ha, he with
    | 0, ha, he => cases ha; cases he; exact ⟨_, hT0, fun i x hx => x_mapi (vs := [0, 0, 0, 2, 0, 4, 0]) (by rw [show (([0, 0, 0, 2, 0, 4, 0] : List Int32).map fun v => xi v.toInt) = [xi 0, xi 0, xi 0, xi 2, xi 0, xi 4, xi 0] by decide +kernel]; exact hx)⟩
    | 1, ha, he => cases ha; cases he; exact ⟨_, hT1, fun i x hx => x_mapi (vs := [0, 0, (-1), 1, 0]) (by rw [show (([0, 0, (-1), 1, 0] : List Int32).map fun v => xi v.toInt) = [xi 0, xi 0, xi (-1), xi 1, xi 0] by decide +kernel]; exact hx)⟩
    | 2, ha, he => cases ha; cases he; exact ⟨_, hT2, fun i x hx => x_mapi (vs := [0, (-1), 0, 0, 1]) (by rw [show (([0, (-1), 0, 0, 1] : List Int32).map fun v => xi v.toInt) = [xi 0, xi (-1), xi 0, xi 0, xi 1] by decide +kernel]; exact hx)⟩
    | 3, ha, he => cases ha; cases he; exact ⟨_, hT3, fun i x hx => x_mapi (vs := [0, 0, 0, 0, 3, 3]) (by rw [show (([0, 0, 0, 0, 3, 3] : List Int32).map fun v => xi v.toInt) = [xi 0, xi 0, xi 0, xi 0, xi 3, xi 3] by decide +kernel]; exact hx)⟩
    | 4, ha, he => cases ha; cases he; exact ⟨_, hT4, fun i x hx => x_mapi (vs := [72, 76, 87, 69]) (by rw [show (([72, 76, 87, 69] : List Int32).map fun v => xi v.toInt) = [xi 72, xi 76, xi 87, xi 69] by decide +kernel]; exact hx)⟩
    | 5, ha, he =>
      cases ha; cases he
      obtain ⟨scr, g1, g2, g3, g4, g5⟩ := hX
      exact ⟨fun j => .int (xs j), ⟨scr, g1, g2, g3, by rw [hsc, g4] <;> exact Nat.le_refl _, by rw [hsc, g4] <;> rfl, fun j hj => g5 j (by omega), hA0 _ hbl⟩, hin⟩
    | j + 6, ha, he => simp at ha
  · intro q hq
    simp only [xSV, List.mem_cons, List.mem_nil_iff, or_false] at hq
    rcases hq with rfl | rfl | rfl | rfl | rfl
    · exact ⟨t0, rfl, hZ0⟩
    · exact ⟨t1, rfl, hZ1⟩
    · exact ⟨t2, rfl, hZ2⟩
    · exact ⟨t3, rfl, hZ3⟩
    · exact ⟨t4, rfl, hZ4⟩
  · intro q hq
    simp only [xNW, List.mem_cons, List.mem_nil_iff, or_false] at hq
    rcases hq with rfl | rfl | rfl | rfl | rfl | rfl | rfl | rfl
    · exact va_Nw.of rfl (hts _ (List.mem_of_getElem? (i := 109) (by decide +kernel)))
    · exact va_Nw.of rfl (hts _ (List.mem_of_getElem? (i := 162) (by decide +kernel)))
    · exact va_Nw.of rfl (hts _ (List.mem_of_getElem? (i := 173) (by decide +kernel)))
    · exact va_Nw.of rfl (hts _ (List.mem_of_getElem? (i := 195) (by decide +kernel)))
    · exact va_Nw.of rfl (hts _ (List.mem_of_getElem? (i := 214) (by decide +kernel)))
    · exact va_Nw.of rfl (hts _ (List.mem_of_getElem? (i := 232) (by decide +kernel)))
    · exact va_Nw.of rfl (hts _ (List.mem_of_getElem? (i := 414) (by decide +kernel)))
    · exact va_Nw.of rfl (hts _ (List.mem_of_getElem? (i := 600) (by decide +kernel)))
  · intro q hq
    simp only [xNF, List.mem_cons, List.mem_nil_iff, or_false] at hq
    rcases hq with rfl | rfl | rfl
    · exact va_Nw.of rfl (hts _ (List.mem_of_getElem? (i := 528) (by decide +kernel)))
    · exact va_Nw.of rfl (hts _ (List.mem_of_getElem? (i := 530) (by decide +kernel)))
    · exact va_Nw.of rfl (hts _ (List.mem_of_getElem? (i := 798) (by decide +kernel)))
  · intro C hC
    simp only [xAO, List.mem_cons, List.mem_nil_iff, or_false] at hC
    rcases hC with rfl | rfl | rfl | rfl
    · exact va_AO.of o3
    · exact va_AO.of o4
    · exact va_AO.of o5
    · exact va_AO.of o6
