/-! ===== op 5 put together ===== -/
theorem xr_5_0 : ∀ j, j < 41 → xF_5_0 j = true := fun j hj => by
  rcases (show j < 14 ∨ (14 ≤ j ∧ j < 28) ∨ (28 ≤ j ∧ j < 41) by omega) with h | h | h
  · exact x_pieces (F := xF_5_0) (a := 0) (b := 14) xp_5_0_0 (Nat.zero_le _) (by omega)
  · exact x_pieces (F := xF_5_0) (a := 14) (b := 14) xp_5_0_14 h.1 (by omega)
  · exact x_pieces (F := xF_5_0) (a := 28) (b := 13) xp_5_0_28 h.1 (by omega)
theorem xq_5_0 : xchk (xrg 0 41 xA3 xA3) (fun q2 l => xf5 5 (0 + ((0 : Nat) : Int), 0 + ((0 : Nat) : Int)) q2 l) = true := xchk_rg (by decide +kernel) (fun j hj => xr_5_0 j hj) (by decide +kernel)
theorem xr_5_1 : ∀ j, j < 41 → xF_5_1 j = true := fun j hj => by
  rcases (show j < 14 ∨ (14 ≤ j ∧ j < 28) ∨ (28 ≤ j ∧ j < 41) by omega) with h | h | h
  · exact x_pieces (F := xF_5_1) (a := 0) (b := 14) xp_5_1_0 (Nat.zero_le _) (by omega)
  · exact x_pieces (F := xF_5_1) (a := 14) (b := 14) xp_5_1_14 h.1 (by omega)
  · exact x_pieces (F := xF_5_1) (a := 28) (b := 13) xp_5_1_28 h.1 (by omega)
theorem xq_5_1 : xchk (xrg 0 41 xA3 xA3) (fun q2 l => xf5 5 (0 + ((1 : Nat) : Int), 0 + ((1 : Nat) : Int)) q2 l) = true := xchk_rg (by decide +kernel) (fun j hj => xr_5_1 j hj) (by decide +kernel)
theorem xr_5_2 : ∀ j, j < 41 → xF_5_2 j = true := fun j hj => by
  rcases (show j < 14 ∨ (14 ≤ j ∧ j < 28) ∨ (28 ≤ j ∧ j < 41) by omega) with h | h | h
  · exact x_pieces (F := xF_5_2) (a := 0) (b := 14) xp_5_2_0 (Nat.zero_le _) (by omega)
  · exact x_pieces (F := xF_5_2) (a := 14) (b := 14) xp_5_2_14 h.1 (by omega)
  · exact x_pieces (F := xF_5_2) (a := 28) (b := 13) xp_5_2_28 h.1 (by omega)
theorem xq_5_2 : xchk (xrg 0 41 xA3 xA3) (fun q2 l => xf5 5 (0 + ((2 : Nat) : Int), 0 + ((2 : Nat) : Int)) q2 l) = true := xchk_rg (by decide +kernel) (fun j hj => xr_5_2 j hj) (by decide +kernel)
theorem xr_5_3 : ∀ j, j < 41 → xF_5_3 j = true := fun j hj => by
  rcases (show j < 14 ∨ (14 ≤ j ∧ j < 28) ∨ (28 ≤ j ∧ j < 41) by omega) with h | h | h
  · exact x_pieces (F := xF_5_3) (a := 0) (b := 14) xp_5_3_0 (Nat.zero_le _) (by omega)
  · exact x_pieces (F := xF_5_3) (a := 14) (b := 14) xp_5_3_14 h.1 (by omega)
  · exact x_pieces (F := xF_5_3) (a := 28) (b := 13) xp_5_3_28 h.1 (by omega)
theorem xq_5_3 : xchk (xrg 0 41 xA3 xA3) (fun q2 l => xf5 5 (0 + ((3 : Nat) : Int), 0 + ((3 : Nat) : Int)) q2 l) = true := xchk_rg (by decide +kernel) (fun j hj => xr_5_3 j hj) (by decide +kernel)
theorem xop_5 : xchk5 (xrg 0 4 (xcut 41 xA3 xA3) (xrg 0 41 xA3 xA3)) (fun sc => xgood sc (xS 5)) = true := xchk_rg (F := fun q1 l => xchk l (fun q2 l => xf5 5 q1 q2 l)) (by decide +kernel) (fun r hr => by
  match r, hr with
  | 0, _ => exact xq_5_0
  | 1, _ => exact xq_5_1
  | 2, _ => exact xq_5_2
  | 3, _ => exact xq_5_3
  | r + 4, hr => exact absurd hr (by omega)) (by decide +kernel)
