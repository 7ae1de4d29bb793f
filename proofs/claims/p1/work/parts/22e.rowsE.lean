/-! ===== op 0 put together ===== -/
theorem xr_0_0 : ∀ j, j < 41 → xF_0_0 j = true := fun j hj => by
  rcases (show j < 14 ∨ (14 ≤ j ∧ j < 28) ∨ (28 ≤ j ∧ j < 41) by omega) with h | h | h
  · exact x_pieces (F := xF_0_0) (a := 0) (b := 14) xp_0_0_0 (Nat.zero_le _) (by omega)
  · exact x_pieces (F := xF_0_0) (a := 14) (b := 14) xp_0_0_14 h.1 (by omega)
  · exact x_pieces (F := xF_0_0) (a := 28) (b := 13) xp_0_0_28 h.1 (by omega)
theorem xq_0_0 : xchk (xrg 0 41 xA3 xA3) (fun q2 l => xf5 0 (0 + ((0 : Nat) : Int), 0 + ((0 : Nat) : Int)) q2 l) = true := xchk_rg (by decide +kernel) (fun j hj => xr_0_0 j hj) (by decide +kernel)
theorem xr_0_1 : ∀ j, j < 41 → xF_0_1 j = true := fun j hj => by
  rcases (show j < 14 ∨ (14 ≤ j ∧ j < 28) ∨ (28 ≤ j ∧ j < 41) by omega) with h | h | h
  · exact x_pieces (F := xF_0_1) (a := 0) (b := 14) xp_0_1_0 (Nat.zero_le _) (by omega)
  · exact x_pieces (F := xF_0_1) (a := 14) (b := 14) xp_0_1_14 h.1 (by omega)
  · exact x_pieces (F := xF_0_1) (a := 28) (b := 13) xp_0_1_28 h.1 (by omega)
theorem xq_0_1 : xchk (xrg 0 41 xA3 xA3) (fun q2 l => xf5 0 (0 + ((1 : Nat) : Int), 0 + ((1 : Nat) : Int)) q2 l) = true := xchk_rg (by decide +kernel) (fun j hj => xr_0_1 j hj) (by decide +kernel)
theorem xr_0_2 : ∀ j, j < 41 → xF_0_2 j = true := fun j hj => by
  rcases (show j < 14 ∨ (14 ≤ j ∧ j < 28) ∨ (28 ≤ j ∧ j < 41) by omega) with h | h | h
  · exact x_pieces (F := xF_0_2) (a := 0) (b := 14) xp_0_2_0 (Nat.zero_le _) (by omega)
  · exact x_pieces (F := xF_0_2) (a := 14) (b := 14) xp_0_2_14 h.1 (by omega)
  · exact x_pieces (F := xF_0_2) (a := 28) (b := 13) xp_0_2_28 h.1 (by omega)
theorem xq_0_2 : xchk (xrg 0 41 xA3 xA3) (fun q2 l => xf5 0 (0 + ((2 : Nat) : Int), 0 + ((2 : Nat) : Int)) q2 l) = true := xchk_rg (by decide +kernel) (fun j hj => xr_0_2 j hj) (by decide +kernel)
theorem xr_0_3 : ∀ j, j < 41 → xF_0_3 j = true := fun j hj => by
  rcases (show j < 14 ∨ (14 ≤ j ∧ j < 28) ∨ (28 ≤ j ∧ j < 41) by omega) with h | h | h
  · exact x_pieces (F := xF_0_3) (a := 0) (b := 14) xp_0_3_0 (Nat.zero_le _) (by omega)
  · exact x_pieces (F := xF_0_3) (a := 14) (b := 14) xp_0_3_14 h.1 (by omega)
  · exact x_pieces (F := xF_0_3) (a := 28) (b := 13) xp_0_3_28 h.1 (by omega)
theorem xq_0_3 : xchk (xrg 0 41 xA3 xA3) (fun q2 l => xf5 0 (0 + ((3 : Nat) : Int), 0 + ((3 : Nat) : Int)) q2 l) = true := xchk_rg (by decide +kernel) (fun j hj => xr_0_3 j hj) (by decide +kernel)
theorem xr_0_4 : ∀ j, j < 41 → xF_0_4 j = true := fun j hj => by
  rcases (show j < 14 ∨ (14 ≤ j ∧ j < 28) ∨ (28 ≤ j ∧ j < 41) by omega) with h | h | h
  · exact x_pieces (F := xF_0_4) (a := 0) (b := 14) xp_0_4_0 (Nat.zero_le _) (by omega)
  · exact x_pieces (F := xF_0_4) (a := 14) (b := 14) xp_0_4_14 h.1 (by omega)
  · exact x_pieces (F := xF_0_4) (a := 28) (b := 13) xp_0_4_28 h.1 (by omega)
theorem xq_0_4 : xchk (xrg 0 41 xA3 xA3) (fun q2 l => xf5 0 (0 + ((4 : Nat) : Int), 0 + ((4 : Nat) : Int)) q2 l) = true := xchk_rg (by decide +kernel) (fun j hj => xr_0_4 j hj) (by decide +kernel)
theorem xr_0_5 : ∀ j, j < 41 → xF_0_5 j = true := fun j hj => by
  rcases (show j < 14 ∨ (14 ≤ j ∧ j < 28) ∨ (28 ≤ j ∧ j < 41) by omega) with h | h | h
  · exact x_pieces (F := xF_0_5) (a := 0) (b := 14) xp_0_5_0 (Nat.zero_le _) (by omega)
  · exact x_pieces (F := xF_0_5) (a := 14) (b := 14) xp_0_5_14 h.1 (by omega)
  · exact x_pieces (F := xF_0_5) (a := 28) (b := 13) xp_0_5_28 h.1 (by omega)
theorem xq_0_5 : xchk (xrg 0 41 xA3 xA3) (fun q2 l => xf5 0 (0 + ((5 : Nat) : Int), 0 + ((5 : Nat) : Int)) q2 l) = true := xchk_rg (by decide +kernel) (fun j hj => xr_0_5 j hj) (by decide +kernel)
theorem xop_0 : xchk5 (xrg 0 6 (xcut 41 xA3 xA3) (xrg 0 41 xA3 xA3)) (fun sc => xgood sc (xS 0)) = true := xchk_rg (F := fun q1 l => xchk l (fun q2 l => xf5 0 q1 q2 l)) (by decide +kernel) (fun r hr => by
  match r, hr with
  | 0, _ => exact xq_0_0
  | 1, _ => exact xq_0_1
  | 2, _ => exact xq_0_2
  | 3, _ => exact xq_0_3
  | 4, _ => exact xq_0_4
  | 5, _ => exact xq_0_5
  | r + 6, hr => exact absurd hr (by omega)) (by decide +kernel)
