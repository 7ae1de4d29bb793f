/-! ===== op 36: no rows at all, the model ===== -/
def xpmn : Nat → Nat
  | 1 => 401
  | 2 => 540
  | 3 => 679
  | _ => 0
def xpmL : Nat → XL
  | 1 => [(4, xi 6), (3, xi 1), (5, xi 6), (0, .inr (.inr (1, 57))), (1, .inl (1, 63)), (2, xi 0)]
  | 2 => [(4, xi 6), (3, xi 2), (5, xi 6), (0, .inr (.inr (1, 57))), (1, .inl (1, 63)), (2, xi 0)]
  | 3 => [(4, xi 6), (3, xi 3), (5, xi 6), (0, .inr (.inr (1, 57))), (1, .inl (1, 63)), (2, xi 0)]
  | _ => []
def xpmT (n : Nat) : XS := (252, xpmL n, [], xP_w0, 0, 0)
def xpmB (b : Nat) : XS := (34, [(0, .inr (.inr (1, 57))), (1, .inl ((b : Int), (b : Int))), (2, .inl (0, 0))], [], xP_w0, 0, 0)
def xpm0k (b : Nat) : Bool := !xpok b || (match xsteps (xSt xscA xm235) (xpmn (xpop b)) (xpmB b) with
  | some S => xsle S (xpmT (xpop b))
  | none => false)
theorem xpm0_1 : (List.range 7).all (fun i => xpm0k (1 + i)) = true := by decide +kernel
theorem xpm0_8 : (List.range 8).all (fun i => xpm0k (8 + i)) = true := by decide +kernel
theorem xpm0_16 : (List.range 8).all (fun i => xpm0k (16 + i)) = true := by decide +kernel
theorem xpm0_24 : (List.range 8).all (fun i => xpm0k (24 + i)) = true := by decide +kernel
theorem xpm0_32 : (List.range 8).all (fun i => xpm0k (32 + i)) = true := by decide +kernel
theorem xpm0_40 : (List.range 8).all (fun i => xpm0k (40 + i)) = true := by decide +kernel
theorem xpm0_48 : (List.range 16).all (fun i => xpm0k (48 + i)) = true := by decide +kernel
theorem xpm0_ok {b : Nat} (h1 : 1 ≤ b) (hb : b < 64) (hp : xpop b ≤ 3) : ∃ S, xsteps (xSt xscA xm235) (xpmn (xpop b)) (xpmB b) = some S ∧ xsle S (xpmT (xpop b)) = true := by
  have h : xpm0k b = true := by
    rcases (show (1 ≤ b ∧ b < 8) ∨ (8 ≤ b ∧ b < 16) ∨ (16 ≤ b ∧ b < 24) ∨ (24 ≤ b ∧ b < 32) ∨ (32 ≤ b ∧ b < 40) ∨ (40 ≤ b ∧ b < 48) ∨ (48 ≤ b ∧ b < 64) by omega) with h | h | h | h | h | h | h
    · exact x_pieces (F := xpm0k) (a := 1) (b := 7) xpm0_1 h.1 (by omega)
    · exact x_pieces (F := xpm0k) (a := 8) (b := 8) xpm0_8 h.1 (by omega)
    · exact x_pieces (F := xpm0k) (a := 16) (b := 8) xpm0_16 h.1 (by omega)
    · exact x_pieces (F := xpm0k) (a := 24) (b := 8) xpm0_24 h.1 (by omega)
    · exact x_pieces (F := xpm0k) (a := 32) (b := 8) xpm0_32 h.1 (by omega)
    · exact x_pieces (F := xpm0k) (a := 40) (b := 8) xpm0_40 h.1 (by omega)
    · exact x_pieces (F := xpm0k) (a := 48) (b := 16) xpm0_48 h.1 (by omega)
  unfold xpm0k at h
  rw [show xpok b = true from decide_eq_true hp, Bool.not_true, Bool.false_or] at h
  split at h
  · rename_i S hS
    exact ⟨S, hS, h⟩
  · cases h
def xpm1_S1 : XS := (291, [(8, xi 4), (7, xi 1), (6, xi 80), (11, xi (-9)), (10, xi 0), (9, xi 2), (5, xi 0), (4, xi 0), (3, xi 1), (0, .inr (.inr (1, 57))), (1, .inl (1, 63)), (2, xi 0)], [xi 7, xi 80], xP_w0, 0, 0)
theorem xpm1_p1 : xsteps (xSt xscA xm235) 3000 (xpmT 1) = some xpm1_S1 := @of_decide_eq_true _ (xd7 _ _) (show @decide _ (xd7 (xsteps (xSt xscA xm235) 3000 (xpmT 1)) (some xpm1_S1)) = true by decide +kernel)
def xpm1_S2 : XS := (287, [(8, xi 1), (7, xi 3), (6, xi 159), (11, xi (-9)), (10, xi 0), (9, xi 4), (5, xi 0), (4, xi 0), (3, xi 1), (0, .inr (.inr (1, 57))), (1, .inl (1, 63)), (2, xi 0)], [], xP_w0, 0, 0)
theorem xpm1_p2 : xsteps (xSt xscA xm235) 3000 (xpm1_S1) = some xpm1_S2 := @of_decide_eq_true _ (xd7 _ _) (show @decide _ (xd7 (xsteps (xSt xscA xm235) 3000 (xpm1_S1)) (some xpm1_S2)) = true by decide +kernel)
def xpm1_S3 : XS := (284, [(7, xi 4), (6, xi 238), (11, xi (-9)), (10, xi 0), (9, xi 6), (8, xi 5), (5, xi 0), (4, xi 0), (3, xi 1), (0, .inr (.inr (1, 57))), (1, .inl (1, 63)), (2, xi 0)], [xi 7, xi 34], xP_w0, 0, 0)
theorem xpm1_p3 : xsteps (xSt xscA xm235) 3000 (xpm1_S2) = some xpm1_S3 := @of_decide_eq_true _ (xd7 _ _) (show @decide _ (xd7 (xsteps (xSt xscA xm235) 3000 (xpm1_S2)) (some xpm1_S3)) = true by decide +kernel)
def xpm1_S4 : XS := (281, [(7, xi 6), (6, xi 317), (11, xi (-9)), (10, xi 0), (9, xi 1), (8, xi 3), (5, xi 0), (4, xi 0), (3, xi 1), (0, .inr (.inr (1, 57))), (1, .inl (1, 63)), (2, xi 0)], [xi 7, xi 317], xP_w0, 0, 0)
theorem xpm1_p4 : xsteps (xSt xscA xm235) 3000 (xpm1_S3) = some xpm1_S4 := @of_decide_eq_true _ (xd7 _ _) (show @decide _ (xd7 (xsteps (xSt xscA xm235) 3000 (xpm1_S3)) (some xpm1_S4)) = true by decide +kernel)
def xpm1_k : Bool := match xrun (xSt xscA xm235) 20 (xpm1_S4) with
  | some (.inr (some (.inl z), _, 0, 0)) => decide (z = (0, 0))
  | _ => false
theorem xpm1_e : xpm1_k = true := by decide +kernel
theorem xpm1_r : ∃ w2, xrun (xSt xscA xm235) 20 (xpm1_S4) = some (.inr (some (.inl (0, 0)), w2, 0, 0)) := by
  have h := xpm1_e
  unfold xpm1_k at h
  split at h
  · rename_i z w hz
    have a1 := of_decide_eq_true h
    subst a1
    exact ⟨w, hz⟩
  · cases h
theorem xpm1_all {l : Launch} {D : va_G} {tA : Nat → ClassId} {ex : List Nat} : ∃ w2, ∀ P : XR → Prop, XCl (xSt xscA xm235) (xJm l D tA ex xscA xm235) P → P (.inr (some (.inl (0, 0)), w2, 0, 0)) → P (.inl (xpmT 1)) := by
  obtain ⟨w2, hw⟩ := xpm1_r
  exact ⟨w2, fun P hP hF => hP.steps xpm1_p1 (hP.steps xpm1_p2 (hP.steps xpm1_p3 (hP.steps xpm1_p4 (hP.run hw hF))))⟩
def xpm2_S1 : XS := (284, [(7, xi 1), (6, xi 70), (11, xi (-9)), (10, xi 0), (9, xi 6), (8, xi 2), (5, xi 0), (4, xi 0), (3, xi 2), (0, .inr (.inr (1, 57))), (1, .inl (1, 63)), (2, xi 0)], [xi 7, xi 10], xP_w0, 0, 0)
theorem xpm2_p1 : xsteps (xSt xscA xm235) 3000 (xpmT 2) = some xpm2_S1 := @of_decide_eq_true _ (xd7 _ _) (show @decide _ (xd7 (xsteps (xSt xscA xm235) 3000 (xpmT 2)) (some xpm2_S1)) = true by decide +kernel)
def xpm2_S2 : XS := (281, [(7, xi 3), (6, xi 149), (11, xi (-9)), (10, xi 0), (9, xi 1), (8, xi 0), (5, xi 0), (4, xi 0), (3, xi 2), (0, .inr (.inr (1, 57))), (1, .inl (1, 63)), (2, xi 0)], [xi 7, xi 149], xP_w0, 0, 0)
theorem xpm2_p2 : xsteps (xSt xscA xm235) 3000 (xpm2_S1) = some xpm2_S2 := @of_decide_eq_true _ (xd7 _ _) (show @decide _ (xd7 (xsteps (xSt xscA xm235) 3000 (xpm2_S1)) (some xpm2_S2)) = true by decide +kernel)
def xpm2_S3 : XS := (277, [(7, xi 4), (6, xi 228), (11, xi (-9)), (10, xi 0), (9, xi 3), (8, xi 4), (5, xi 0), (4, xi 0), (3, xi 2), (0, .inr (.inr (1, 57))), (1, .inl (1, 63)), (2, xi 0)], [], xP_w0, 0, 0)
theorem xpm2_p3 : xsteps (xSt xscA xm235) 3000 (xpm2_S2) = some xpm2_S3 := @of_decide_eq_true _ (xd7 _ _) (show @decide _ (xd7 (xsteps (xSt xscA xm235) 3000 (xpm2_S2)) (some xpm2_S3)) = true by decide +kernel)
def xpm2_S4 : XS := (274, [(6, xi 307), (11, xi (-9)), (10, xi 0), (9, xi 5), (8, xi 1), (7, xi 6), (5, xi 0), (4, xi 0), (3, xi 2), (0, .inr (.inr (1, 57))), (1, .inl (1, 63)), (2, xi 0)], [xi 49, xi 307], xP_w0, 0, 0)
theorem xpm2_p4 : xsteps (xSt xscA xm235) 3000 (xpm2_S3) = some xpm2_S4 := @of_decide_eq_true _ (xd7 _ _) (show @decide _ (xd7 (xsteps (xSt xscA xm235) 3000 (xpm2_S3)) (some xpm2_S4)) = true by decide +kernel)
def xpm2_k : Bool := match xrun (xSt xscA xm235) 20 (xpm2_S4) with
  | some (.inr (some (.inl z), _, 0, 0)) => decide (z = (0, 0))
  | _ => false
theorem xpm2_e : xpm2_k = true := by decide +kernel
theorem xpm2_r : ∃ w2, xrun (xSt xscA xm235) 20 (xpm2_S4) = some (.inr (some (.inl (0, 0)), w2, 0, 0)) := by
  have h := xpm2_e
  unfold xpm2_k at h
  split at h
  · rename_i z w hz
    have a1 := of_decide_eq_true h
    subst a1
    exact ⟨w, hz⟩
  · cases h
theorem xpm2_all {l : Launch} {D : va_G} {tA : Nat → ClassId} {ex : List Nat} : ∃ w2, ∀ P : XR → Prop, XCl (xSt xscA xm235) (xJm l D tA ex xscA xm235) P → P (.inr (some (.inl (0, 0)), w2, 0, 0)) → P (.inl (xpmT 2)) := by
  obtain ⟨w2, hw⟩ := xpm2_r
  exact ⟨w2, fun P hP hF => hP.steps xpm2_p1 (hP.steps xpm2_p2 (hP.steps xpm2_p3 (hP.steps xpm2_p4 (hP.run hw hF))))⟩
def xpm3_S1 : XS := (366, [(9, xi 5), (8, xi 2), (7, xi 1), (6, xi 68), (11, xi (-9)), (10, xi 0), (5, xi 0), (4, xi 0), (3, xi 3), (0, .inr (.inr (1, 57))), (1, .inl (1, 63)), (2, xi 0)], [xi 0], xP_w0, 0, 0)
theorem xpm3_p1 : xsteps (xSt xscA xm235) 3000 (xpmT 3) = some xpm3_S1 := @of_decide_eq_true _ (xd7 _ _) (show @decide _ (xd7 (xsteps (xSt xscA xm235) 3000 (xpmT 3)) (some xpm3_S1)) = true by decide +kernel)
def xpm3_S2 : XS := (308, [(9, xi 0), (8, xi 0), (7, xi 3), (6, xi 147), (11, xi (-9)), (10, xi 0), (5, xi 0), (4, xi 0), (3, xi 3), (0, .inr (.inr (1, 57))), (1, .inl (1, 63)), (2, xi 0)], [xi 0], xP_w0, 0, 0)
theorem xpm3_p2 : xsteps (xSt xscA xm235) 3000 (xpm3_S1) = some xpm3_S2 := @of_decide_eq_true _ (xd7 _ _) (show @decide _ (xd7 (xsteps (xSt xscA xm235) 3000 (xpm3_S1)) (some xpm3_S2)) = true by decide +kernel)
def xpm3_S3 : XS := (306, [(9, xi 2), (8, xi 4), (7, xi 4), (6, xi 226), (11, xi (-9)), (10, xi 0), (5, xi 0), (4, xi 0), (3, xi 3), (0, .inr (.inr (1, 57))), (1, .inl (1, 63)), (2, xi 0)], [.inr (.inl (some 0))], xP_w0, 0, 0)
theorem xpm3_p3 : xsteps (xSt xscA xm235) 3000 (xpm3_S2) = some xpm3_S3 := @of_decide_eq_true _ (xd7 _ _) (show @decide _ (xd7 (xsteps (xSt xscA xm235) 3000 (xpm3_S2)) (some xpm3_S3)) = true by decide +kernel)
def xpm3_S4 : XS := (303, [(9, xi 4), (8, xi 1), (7, xi 6), (6, xi 305), (11, xi (-9)), (10, xi 0), (5, xi 0), (4, xi 0), (3, xi 3), (0, .inr (.inr (1, 57))), (1, .inl (1, 63)), (2, xi 0)], [.inr (.inr (1, 95))], xP_w0, 0, 0)
theorem xpm3_p4 : xsteps (xSt xscA xm235) 3000 (xpm3_S3) = some xpm3_S4 := @of_decide_eq_true _ (xd7 _ _) (show @decide _ (xd7 (xsteps (xSt xscA xm235) 3000 (xpm3_S3)) (some xpm3_S4)) = true by decide +kernel)
def xpm3_k : Bool := match xrun (xSt xscA xm235) 20 (xpm3_S4) with
  | some (.inr (some (.inl z), _, 0, 0)) => decide (z = (0, 0))
  | _ => false
theorem xpm3_e : xpm3_k = true := by decide +kernel
theorem xpm3_r : ∃ w2, xrun (xSt xscA xm235) 20 (xpm3_S4) = some (.inr (some (.inl (0, 0)), w2, 0, 0)) := by
  have h := xpm3_e
  unfold xpm3_k at h
  split at h
  · rename_i z w hz
    have a1 := of_decide_eq_true h
    subst a1
    exact ⟨w, hz⟩
  · cases h
theorem xpm3_all {l : Launch} {D : va_G} {tA : Nat → ClassId} {ex : List Nat} : ∃ w2, ∀ P : XR → Prop, XCl (xSt xscA xm235) (xJm l D tA ex xscA xm235) P → P (.inr (some (.inl (0, 0)), w2, 0, 0)) → P (.inl (xpmT 3)) := by
  obtain ⟨w2, hw⟩ := xpm3_r
  exact ⟨w2, fun P hP hF => hP.steps xpm3_p1 (hP.steps xpm3_p2 (hP.steps xpm3_p3 (hP.steps xpm3_p4 (hP.run hw hF))))⟩
theorem xpop_1 {b : Nat} (h1 : 1 ≤ b) (hb : b < 64) : 1 ≤ xpop b := by
  have h := List.all_eq_true.mp (show (List.range 64).all (fun b => decide (b = 0) || decide (1 ≤ xpop b)) = true by decide +kernel) b (List.mem_range.mpr hb)
  simp only [Bool.or_eq_true] at h
  rcases h with h | h
  · exact absurd (of_decide_eq_true h) (by omega)
  · exact of_decide_eq_true h
section XPL
variable {l : Launch} {D : va_G} {tA : Nat → ClassId} {ex : List Nat}
theorem xpmT_all {n : Nat} (h1 : 1 ≤ n) (h3 : n ≤ 3) : ∃ w2, ∀ P : XR → Prop, XCl (xSt xscA xm235) (xJm l D tA ex xscA xm235) P → P (.inr (some (.inl (0, 0)), w2, 0, 0)) → P (.inl (xpmT n)) := by
  rcases (show n = 1 ∨ n = 2 ∨ n = 3 by omega) with h | h | h
  · subst h
    exact xpm1_all
  · subst h
    exact xpm2_all
  · subst h
    exact xpm3_all
set_option maxRecDepth 100000 in
set_option maxHeartbeats 4000000 in
theorem xpm_0 {b : Nat} (h1 : 1 ≤ b) (hb : b < 64) (hp : xpop b ≤ 3) : ∃ w2, XMet l D vwCl (tysX tA) tA ex (xSTX ++ [xscA]) xSV xNW xNF xTs xm235 [.inr (.inr (1, 57)), .inl ((b : Int), (b : Int)), .inl (0, 0)] xP_w0 (some (.inl (0, 0))) w2 := by
  obtain ⟨w2, hw2⟩ := xpmT_all (l := l) (D := D) (tA := tA) (ex := ex) (xpop_1 h1 hb) hp
  obtain ⟨S, hS1, hS2⟩ := xpm0_ok h1 hb hp
  refine ⟨w2, ?_⟩
  refine xmet_ofK x_good (x_tysX tA) (x_tysY tA) (x_tysC tA) x_ok (fun j N as w ro w' => xcf_met j N as w ro w') (j := 235) (w2 := w2) (k2 := 0) (n2 := 0) rfl (Nat.le_of_ble_eq_true rfl) ⟨Nat.le_refl _, Nat.le_refl _⟩ (Or.inr rfl) (fun P hP hF => ?_)
  show P (.inl (0, [(0, .inr (.inr (1, 57))), (1, .inl ((b : Int), (b : Int))), (2, .inl ((0 : Int), (0 : Int)))], [], xP_w0, 0, 0))
  refine hP.go (r := .inl (1, [(0, .inr (.inr (1, 57))), (1, .inl ((b : Int), (b : Int))), (2, .inl ((0 : Int), (0 : Int)))], [.inl ((b : Int), (b : Int))], xP_w0, 0, 0)) xf235_0 rfl ?_
  refine hP.go (r := .inl (2, [(0, .inr (.inr (1, 57))), (1, .inl ((b : Int), (b : Int))), (2, .inl ((0 : Int), (0 : Int)))], [.inl ((1 : Int), (1 : Int)), .inl ((b : Int), (b : Int))], xP_w0, 0, 0)) xf235_1 rfl ?_
  refine hP.go (r := .inl (4, [(0, .inr (.inr (1, 57))), (1, .inl ((b : Int), (b : Int))), (2, .inl ((0 : Int), (0 : Int)))], [.inl ((63 : Int), (63 : Int)), .inl ((1 : Int), (1 : Int)), .inl ((b : Int), (b : Int))], xP_w0, 0, 0)) xf235_2 rfl ?_
  refine hP.go (r := .inl (7, [(0, .inr (.inr (1, 57))), (1, .inl ((b : Int), (b : Int))), (2, .inl ((0 : Int), (0 : Int)))], [.inl ((1 : Int), (1 : Int))], xP_w0, 0, 0)) xf235_4 (sx_calls (N := xm160) (ro := some (.inl ((1 : Int), (1 : Int)))) (w' := xP_w0) (k := 0) (n := 0) (by decide) rfl (Nat.le_of_ble_eq_true rfl) (Nat.le_of_ble_eq_true rfl) (Nat.le_of_ble_eq_true rfl) (Nat.le_of_ble_eq_true rfl) (Nat.le_of_ble_eq_true rfl) (Nat.le_of_ble_eq_true rfl) (xin_1 h1 hb)) ?_
  refine hP.go (r := .inl (10, [(0, .inr (.inr (1, 57))), (1, .inl ((b : Int), (b : Int))), (2, .inl ((0 : Int), (0 : Int)))], [], xP_w0, 0, 0)) xf235_7 (sx_if (o := false) rfl) ?_
  refine hP.go (r := .inl (11, [(0, .inr (.inr (1, 57))), (1, .inl ((b : Int), (b : Int))), (2, .inl ((0 : Int), (0 : Int)))], [.inl ((0 : Int), (0 : Int))], xP_w0, 0, 0)) xf235_10 rfl ?_
  refine hP.go (r := .inl (12, [(0, .inr (.inr (1, 57))), (1, .inl ((b : Int), (b : Int))), (2, .inl ((0 : Int), (0 : Int)))], [.inl ((0 : Int), (0 : Int)), .inl ((0 : Int), (0 : Int))], xP_w0, 0, 0)) xf235_11 rfl ?_
  refine hP.go (r := .inl (14, [(0, .inr (.inr (1, 57))), (1, .inl ((b : Int), (b : Int))), (2, .inl ((0 : Int), (0 : Int)))], [.inl ((63 : Int), (63 : Int)), .inl ((0 : Int), (0 : Int)), .inl ((0 : Int), (0 : Int))], xP_w0, 0, 0)) xf235_12 rfl ?_
  refine hP.go (r := .inl (17, [(0, .inr (.inr (1, 57))), (1, .inl ((b : Int), (b : Int))), (2, .inl ((0 : Int), (0 : Int)))], [.inl ((1 : Int), (1 : Int))], xP_w0, 0, 0)) xf235_14 (sx_calls (N := xm160) (ro := some (.inl ((1 : Int), (1 : Int)))) (w' := xP_w0) (k := 0) (n := 0) (by decide) rfl (Nat.le_of_ble_eq_true rfl) (Nat.le_of_ble_eq_true rfl) (Nat.le_of_ble_eq_true rfl) (Nat.le_of_ble_eq_true rfl) (Nat.le_of_ble_eq_true rfl) (Nat.le_of_ble_eq_true rfl) (xin_0 (b := 0) (by decide))) ?_
  refine hP.go (r := .inl (22, [(0, .inr (.inr (1, 57))), (1, .inl ((b : Int), (b : Int))), (2, .inl ((0 : Int), (0 : Int)))], [], xP_w0, 0, 0)) xf235_17 (sx_if (o := true) rfl) ?_
  refine hP.go (r := .inl (23, [(0, .inr (.inr (1, 57))), (1, .inl ((b : Int), (b : Int))), (2, .inl ((0 : Int), (0 : Int)))], [.inl ((b : Int), (b : Int))], xP_w0, 0, 0)) xf235_22 rfl ?_
  refine hP.go (r := .inl (24, [(0, .inr (.inr (1, 57))), (1, .inl ((b : Int), (b : Int))), (2, .inl ((0 : Int), (0 : Int)))], [.inr (.inl (some (b : Int)))], xP_w0, 0, 0)) xf235_23 sx_i2l ?_
  refine hP.go (r := .inl (27, [(0, .inr (.inr (1, 57))), (1, .inl ((b : Int), (b : Int))), (2, .inl ((0 : Int), (0 : Int)))], [.inl ((xpop b : Int), (xpop b : Int))], xP_w0, 0, 0)) xf235_24 (sx_calls (N := xm191) (ro := some (.inl ((xpop b : Int), (xpop b : Int)))) (w' := xP_w0) (k := 0) (n := 0) (by decide) rfl (Nat.le_of_ble_eq_true rfl) (Nat.le_of_ble_eq_true rfl) (Nat.le_of_ble_eq_true rfl) (Nat.le_of_ble_eq_true rfl) (Nat.le_of_ble_eq_true rfl) (Nat.le_of_ble_eq_true rfl) (xmn hb)) ?_
  refine hP.go (r := .inl (28, [(0, .inr (.inr (1, 57))), (1, .inl ((b : Int), (b : Int))), (2, .inl ((0 : Int), (0 : Int)))], [.inl ((3 : Int), (3 : Int)), .inl ((xpop b : Int), (xpop b : Int))], xP_w0, 0, 0)) xf235_27 rfl ?_
  refine hP.go (r := .inl (34, [(0, .inr (.inr (1, 57))), (1, .inl ((b : Int), (b : Int))), (2, .inl ((0 : Int), (0 : Int)))], [], xP_w0, 0, 0)) xf235_28 (sx_icmp (o := true) (xcle_of.trans (by simp <;> omega))) ?_
  refine hP.steps (S := xpmB b) hS1 ?_
  exact hP.2.1 _ _ hS2 (hw2 P hP hF)
end XPL
def xq36 : List ((Int × Int) × (Int × Int)) := [((-2147483648, 0), xtop), ((64, 2147483647), xtop), ((1, 63), (-2147483648, -1)), ((1, 63), (64, 2147483647))]
theorem xq36_ok : ∀ q ∈ xq36, xpair2 116 235 q.1 q.2 = true := List.all_eq_true.mp (show xq36.all (fun q => xpair2 116 235 q.1 q.2) = true by decide +kernel)
section XLW
variable {p : Program} {l : Launch} {e : Env} {s : State} {m : MethodId} {below : List Frame} {meth : Method} {c : Code} {b L : Nat} {xs : Nat → Int32} {D : va_G} {tA : Nat → ClassId} {ex : List Nat}
theorem xlaw_36b (C0 : lw_At p s m meth c b L xs) (hEn : ∀ sc : List XV, sc.length = 6 → (∀ (i : Nat) (x : XV), sc[i]? = some x → xv_in [] [] x (.int (xs i))) → XEnv D vwCl (tysX tA) ex (xSTX ++ [sc]) xSV xNW xNF (fun q : Nat => s.heap.size ≤ q) s) {q : (Int × Int) × (Int × Int)} (hq : q ∈ xq36) (h1 : q.1.1 ≤ (xs 1).toInt ∧ (xs 1).toInt ≤ q.1.2) (h2 : q.2.1 ≤ (xs 2).toInt ∧ (xs 2).toInt ≤ q.2.2) : XLS p l e s m b below meth c D tA ex (.inl (xS 36)) := by
  obtain ⟨z, w1, w2, e1, e2, e3⟩ := xpair2_ok (xq36_ok q hq)
  exact xlw_36 C0 hEn h1 h2 (xcf_met _ _ _ _ _ _ rfl e1) e2 (xcf_met _ _ _ _ _ _ rfl e3)
theorem xlaw_36 (C0 : lw_At p s m meth c b L xs) (hEn : ∀ sc : List XV, sc.length = 6 → (∀ (i : Nat) (x : XV), sc[i]? = some x → xv_in [] [] x (.int (xs i))) → XEnv D vwCl (tysX tA) ex (xSTX ++ [sc]) xSV xNW xNF (fun q : Nat => s.heap.size ≤ q) s) : XLS p l e s m b below meth c D tA ex (.inl (xS 36)) := by
  have r1 := x_rng (xs 1)
  have r2 := x_rng (xs 2)
  by_cases h1 : (xs 1).toInt < 1
  · exact xlaw_36b C0 hEn (q := ((-2147483648, 0), xtop)) (List.mem_cons_self) ⟨r1.1, by show _ ≤ (0 : Int); omega⟩ r2
  by_cases h2 : 64 ≤ (xs 1).toInt
  · exact xlaw_36b C0 hEn (q := ((64, 2147483647), xtop)) (List.mem_cons_of_mem _ List.mem_cons_self) ⟨h2, r1.2⟩ r2
  by_cases h3 : (xs 2).toInt < 0
  · exact xlaw_36b C0 hEn (q := ((1, 63), (-2147483648, -1))) (List.mem_cons_of_mem _ (List.mem_cons_of_mem _ List.mem_cons_self)) ⟨by show (1 : Int) ≤ _; omega, by show _ ≤ (63 : Int); omega⟩ ⟨r2.1, by show _ ≤ (-1 : Int); omega⟩
  by_cases h4 : 64 ≤ (xs 2).toInt
  · exact xlaw_36b C0 hEn (q := ((1, 63), (64, 2147483647))) (List.mem_cons_of_mem _ (List.mem_cons_of_mem _ (List.mem_cons_of_mem _ List.mem_cons_self))) ⟨by show (1 : Int) ≤ _; omega, by show _ ≤ (63 : Int); omega⟩ ⟨h4, r2.2⟩
  obtain ⟨a', ea⟩ : ∃ a' : Nat, (xs 1).toInt = (a' : Int) := ⟨(xs 1).toInt.toNat, by omega⟩
  obtain ⟨b', eb⟩ : ∃ b' : Nat, (xs 2).toInt = (b' : Int) := ⟨(xs 2).toInt.toNat, by omega⟩
  have i1 : ((a' : Int), (a' : Int)).1 ≤ (xs 1).toInt ∧ (xs 1).toInt ≤ ((a' : Int), (a' : Int)).2 := ⟨by show (a' : Int) ≤ _; omega, by show _ ≤ (a' : Int); omega⟩
  have i2 : ((b' : Int), (b' : Int)).1 ≤ (xs 2).toInt ∧ (xs 2).toInt ≤ ((b' : Int), (b' : Int)).2 := ⟨by show (b' : Int) ≤ _; omega, by show _ ≤ (b' : Int); omega⟩
  by_cases hp : xpop a' ≤ 3
  · by_cases hz : b' = 0
    · subst hz
      obtain ⟨w2, m2⟩ := xpm_0 (l := l) (D := D) (tA := tA) (ex := ex) (b := a') (by omega) (by omega) hp
      exact xlw_36 C0 hEn i1 i2 (xcf_met 116 xm116 _ _ _ _ rfl (xpc0 (by omega) (by omega) hp)) xP0_57 m2
    · obtain ⟨w2, m2⟩ := xpm_3 (l := l) (D := D) (tA := tA) (ex := ex) (b := a') (s := b') (by omega) (by omega) (by omega) (by omega) hp
      exact xlw_36 C0 hEn i1 i2 (xpc_3 (by omega) (by omega) (by omega) (by omega) hp) xP_57 m2
  · exact xlw_36 C0 hEn i1 i2 (xpc_6 (by omega) (by omega) (by omega) (by omega)) xw0_57 (xpm_6 (by omega) (by omega) (by omega) (by omega))
end XLW
