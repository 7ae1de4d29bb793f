/-! ===== the law, from its entry ===== -/
set_option maxRecDepth 100000 in
theorem d_law_32 : decode code 32 = .ok (.iand, 1) := by decide +kernel
section XLW
variable {p : Program} {l : Launch} {e : Env} {s : State} {m : MethodId} {below : List Frame} {meth : Method} {c : Code} {b L : Nat} {xs : Nat → Int32} {D : va_G} {tA : Nat → ClassId} {ex : List Nat}
theorem xlaw_one (C0 : lw_At p s m meth c b L xs) (hEn : ∀ sc : List XV, sc.length = 6 → (∀ (i : Nat) (x : XV), sc[i]? = some x → xv_in [] [] x (.int (xs i))) → XEnv D vwCl (tysX tA) ex (xSTX ++ [sc]) xSV xNW xNF (fun q : Nat => s.heap.size ≤ q) s) {lst : XB5} {S : XS} (h : xchk5 lst (fun sc => xgood sc S) = true) : XLS p l e s m b below meth c D tA ex (.inl S) := by
  obtain ⟨sc, h1, h2, h3⟩ := xchk5_in h xs
  exact xlaw_run C0 (hEn sc h2 h3) h1
set_option maxRecDepth 100000 in
theorem xlaw_op (C0 : lw_At p s m meth c b L xs) (hEn : ∀ sc : List XV, sc.length = 6 → (∀ (i : Nat) (x : XV), sc[i]? = some x → xv_in [] [] x (.int (xs i))) → XEnv D vwCl (tysX tA) ex (xSTX ++ [sc]) xSV xNW xNF (fun q : Nat => s.heap.size ≤ q) s) : ∀ j, j < 64 → XLS p l e s m b below meth c D tA ex (.inl (xS j))
  | 0, _ => xlaw_0 C0 hEn
  | 1, _ => xlaw_one C0 hEn xop_1
  | 2, _ => xlaw_one C0 hEn xop_2
  | 3, _ => xlaw_one C0 hEn xop_3
  | 4, _ => xlaw_one C0 hEn xop_4
  | 5, _ => xlaw_5 C0 hEn
  | 6, _ => xlaw_one C0 hEn xop_6
  | 7, _ => xlaw_one C0 hEn xop_7
  | 8, _ => xlaw_one C0 hEn xop_8
  | 9, _ => xlaw_one C0 hEn xop_9
  | 10, _ => xlaw_one C0 hEn xop_10
  | 11, _ => xlaw_one C0 hEn xop_11
  | 12, _ => xlaw_one C0 hEn xop_12
  | 13, _ => xlaw_one C0 hEn xop_13
  | 14, _ => xlaw_one C0 hEn xop_14
  | 15, _ => xlaw_one C0 hEn xop_15
  | 16, _ => xlaw_one C0 hEn xop_16
  | 17, _ => xlaw_one C0 hEn xop_17
  | 18, _ => xlaw_one C0 hEn xop_18
  | 19, _ => xlaw_one C0 hEn xop_19
  | 20, _ => xlaw_one C0 hEn xop_20
  | 21, _ => xlaw_one C0 hEn xop_21
  | 22, _ => xlaw_one C0 hEn xop_22
  | 23, _ => xlaw_23 C0 hEn
  | 24, _ => xlaw_24 C0 hEn
  | 25, _ => xlaw_one C0 hEn xop_25
  | 26, _ => xlaw_one C0 hEn xop_26
  | 27, _ => xlaw_one C0 hEn xop_27
  | 28, _ => xlaw_one C0 hEn xop_28
  | 29, _ => xlaw_one C0 hEn xop_29
  | 30, _ => xlaw_one C0 hEn xop_30
  | 31, _ => xlaw_one C0 hEn xop_31
  | 32, _ => xlaw_one C0 hEn xop_32
  | 33, _ => xlaw_one C0 hEn xop_33
  | 34, _ => xlaw_one C0 hEn xop_34
  | 35, _ => xlaw_one C0 hEn xop_35
  | 36, _ => xlaw_36 C0 hEn
  | 37, _ => xlaw_one C0 hEn xop_37
  | 38, _ => xlaw_one C0 hEn xop_38
  | 39, _ => xlaw_one C0 hEn xop_39
  | 40, _ => xlaw_one C0 hEn xop_40
  | 41, _ => xlaw_one C0 hEn xop_41
  | 42, _ => xlaw_one C0 hEn xop_42
  | 43, _ => xlaw_one C0 hEn xop_43
  | 44, _ => xlaw_one C0 hEn xop_44
  | 45, _ => xlaw_one C0 hEn xop_45
  | 46, _ => xlaw_46 C0 hEn
  | j + 47, hj => xlaw_one C0 hEn (by
    have h := xop_rest j (by omega)
    rw [Nat.add_comm] at h
    exact h)
end XLW
set_option maxHeartbeats 4000000 in
set_option maxRecDepth 100000 in
theorem whole_start {p : Program} {e : Env} {s : State} {m : MethodId} {below : List Frame} {meth : Method} {c : Code} (l : Launch) {b L : Nat} {xs : Nat → Int32} (hL : L ≤ 6) (C0 : lw_At p s m meth c b L xs) : W p l e room_1 s m #[Value.ref b] below meth c s.heap [] 0 0 (lw_Z below #[Value.ref b] s) (entryFrame m ([Value.ref b] : List Value).toArray 4) := by
  obtain ⟨hx, hb, hr, hml, hown, hts, hX, hbl, hlocks, hgv⟩ := id C0
  obtain ⟨D, tA, ex, hex, hEn⟩ := xlaw_env hts hX hbl (by omega) hgv
  have htop : ∀ (n i : Nat) (x : XV), (xsc n)[i]? = some x → xv_in [] [] x (.int (xs i)) := fun n i x hx => by
    have hm := List.mem_of_getElem? hx
    rw [(List.mem_replicate.mp hm).2]
    exact ⟨xs i, rfl, x_rng _⟩
  have hl := lv_entry ([.ref b]) (n := 4) (Nat.le_of_ble_eq_true rfl)
  rw [lg_entry_eq]
  generalize (lg_sl ([.ref b]) ++ List.replicate (4 - (lg_sl ([.ref b])).length) Slot.unset).toArray = ls at hl ⊢
  have hl : lv_has ls 4 [(0, .ref b)] := hl
  have hat : ∀ (P : XR → Prop), XAt s 4 D vwCl tA (fun q : Nat => s.heap.size ≤ q) [] ex xS0.2.1 xS0.2.2.1 xS0.2.2.2.1 s.heap [] ls [] [(0, .ref b)] [] := fun _ => ⟨⟨.ref b, [], rfl, Or.inr ⟨b, rfl, Or.inr ⟨rfl, hex⟩⟩, rfl⟩, rfl, ⟨rfl, fun i c h => by simp [xS0] at h⟩, fun k q h => by simp at h, ⟨fun i j p q h => by simp at h, fun k q h => by simp at h⟩, va_S.rf, hl, [], rfl⟩
  have short : ∀ n, L = n → xgood (xsc n) xS0 = true → W p l e room_1 s m #[Value.ref b] below meth c s.heap [] 0 0 (lw_Z below #[Value.ref b] s) (F0 m 0 ls []) := fun n hn hg => by
    have hE := hEn (xsc n) (by rw [hn]; simp [xsc]) (htop n)
    exact xlaw_run (l := l) (e := e) (below := below) C0 hE hg s.heap [] ls [] [(0, .ref b)] [] (hat (fun _ => True))
  rcases (show L = 0 ∨ L = 1 ∨ L = 2 ∨ L = 3 ∨ L = 4 ∨ L = 5 ∨ L = 6 by omega) with h | h | h | h | h | h | h
  · exact short 0 h xlen_0
  · exact short 1 h xlen_1
  · exact short 2 h xlen_2
  · exact short 3 h xlen_3
  · exact short 4 h xlen_4
  · exact short 5 h xlen_5
  · subst h
    have hE6 := hEn (xsc 6) (by simp [xsc]) (htop 6)
    refine xsteps_ok (P := XLS p l e s m b below meth c D tA ex) (xlaw_step C0 hE6) 20 xS0 xS20 x_pre20 ?_ s.heap [] ls [] [(0, .ref b)] [] (hat (fun _ => True))
    intro H locs ls vs lw ws ⟨h1, h2, h3, h4, h5, h6, h7, h8⟩
    obtain ⟨_, _, rfl, ⟨y, rfl, y1, y2⟩, _, _, rfl, ⟨x0, rfl, x1, x2⟩, rfl⟩ := h2
    have hy : y = 63 := Int32.toInt_inj.mp (show y.toInt = 63 by
      have y1 : (63 : Int) ≤ y.toInt := y1
      have y2 : y.toInt ≤ (63 : Int) := y2
      omega)
    subst hy
    refine lv_iand hx hb d_law_32 ?_
    obtain ⟨j, hj, hj2⟩ := pk_andE x0 (m := 63) 6 (by decide +kernel)
    rw [hj2]
    have hj : j < 64 := hj
    exact xlaw_op (l := l) (e := e) (below := below) C0 hEn j hj H locs ls [.int (nI j)] lw ws ⟨h1, ⟨.int (nI j), [], rfl, ⟨nI j, rfl, by rw [nI_toInt (by omega)]; exact Int.le_refl _, by rw [nI_toInt (by omega)]; exact Int.le_refl _⟩, rfl⟩, h3, h4, h5, h6, h7, h8⟩
