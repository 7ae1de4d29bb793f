/-! ===== runs of op 5 ===== -/
theorem xp_5_0_0 : (List.range 14).all (fun i => (fun j : Nat => xf5 5 (0 + ((0 : Nat) : Int), 0 + ((0 : Nat) : Int)) (0 + (j : Int), 0 + (j : Int)) xA3) (0 + i)) = true := by decide +kernel
theorem xp_5_0_14 : (List.range 14).all (fun i => (fun j : Nat => xf5 5 (0 + ((0 : Nat) : Int), 0 + ((0 : Nat) : Int)) (0 + (j : Int), 0 + (j : Int)) xA3) (14 + i)) = true := by decide +kernel
theorem xp_5_0_28 : (List.range 13).all (fun i => (fun j : Nat => xf5 5 (0 + ((0 : Nat) : Int), 0 + ((0 : Nat) : Int)) (0 + (j : Int), 0 + (j : Int)) xA3) (28 + i)) = true := by decide +kernel
theorem xq_5_0 : xchk (xrg 0 41 xA3 xA3) (fun q2 l => xf5 5 (0 + ((0 : Nat) : Int), 0 + ((0 : Nat) : Int)) q2 l) = true := xchk_rg (by decide +kernel) (fun j hj => by
  rcases (show j < 14 ∨ (14 ≤ j ∧ j < 28) ∨ (28 ≤ j ∧ j < 41) by omega) with h | h | h
  · exact x_pieces xp_5_0_0 (Nat.zero_le _) (by omega)
  · exact x_pieces xp_5_0_14 h.1 (by omega)
  · exact x_pieces xp_5_0_28 h.1 (by omega)) (by decide +kernel)
theorem xp_5_1_0 : (List.range 14).all (fun i => (fun j : Nat => xf5 5 (0 + ((1 : Nat) : Int), 0 + ((1 : Nat) : Int)) (0 + (j : Int), 0 + (j : Int)) xA3) (0 + i)) = true := by decide +kernel
theorem xp_5_1_14 : (List.range 14).all (fun i => (fun j : Nat => xf5 5 (0 + ((1 : Nat) : Int), 0 + ((1 : Nat) : Int)) (0 + (j : Int), 0 + (j : Int)) xA3) (14 + i)) = true := by decide +kernel
theorem xp_5_1_28 : (List.range 13).all (fun i => (fun j : Nat => xf5 5 (0 + ((1 : Nat) : Int), 0 + ((1 : Nat) : Int)) (0 + (j : Int), 0 + (j : Int)) xA3) (28 + i)) = true := by decide +kernel
theorem xq_5_1 : xchk (xrg 0 41 xA3 xA3) (fun q2 l => xf5 5 (0 + ((1 : Nat) : Int), 0 + ((1 : Nat) : Int)) q2 l) = true := xchk_rg (by decide +kernel) (fun j hj => by
  rcases (show j < 14 ∨ (14 ≤ j ∧ j < 28) ∨ (28 ≤ j ∧ j < 41) by omega) with h | h | h
  · exact x_pieces xp_5_1_0 (Nat.zero_le _) (by omega)
  · exact x_pieces xp_5_1_14 h.1 (by omega)
  · exact x_pieces xp_5_1_28 h.1 (by omega)) (by decide +kernel)
theorem xp_5_2_0 : (List.range 14).all (fun i => (fun j : Nat => xf5 5 (0 + ((2 : Nat) : Int), 0 + ((2 : Nat) : Int)) (0 + (j : Int), 0 + (j : Int)) xA3) (0 + i)) = true := by decide +kernel
theorem xp_5_2_14 : (List.range 14).all (fun i => (fun j : Nat => xf5 5 (0 + ((2 : Nat) : Int), 0 + ((2 : Nat) : Int)) (0 + (j : Int), 0 + (j : Int)) xA3) (14 + i)) = true := by decide +kernel
theorem xp_5_2_28 : (List.range 13).all (fun i => (fun j : Nat => xf5 5 (0 + ((2 : Nat) : Int), 0 + ((2 : Nat) : Int)) (0 + (j : Int), 0 + (j : Int)) xA3) (28 + i)) = true := by decide +kernel
theorem xq_5_2 : xchk (xrg 0 41 xA3 xA3) (fun q2 l => xf5 5 (0 + ((2 : Nat) : Int), 0 + ((2 : Nat) : Int)) q2 l) = true := xchk_rg (by decide +kernel) (fun j hj => by
  rcases (show j < 14 ∨ (14 ≤ j ∧ j < 28) ∨ (28 ≤ j ∧ j < 41) by omega) with h | h | h
  · exact x_pieces xp_5_2_0 (Nat.zero_le _) (by omega)
  · exact x_pieces xp_5_2_14 h.1 (by omega)
  · exact x_pieces xp_5_2_28 h.1 (by omega)) (by decide +kernel)
theorem xp_5_3_0 : (List.range 14).all (fun i => (fun j : Nat => xf5 5 (0 + ((3 : Nat) : Int), 0 + ((3 : Nat) : Int)) (0 + (j : Int), 0 + (j : Int)) xA3) (0 + i)) = true := by decide +kernel
theorem xp_5_3_14 : (List.range 14).all (fun i => (fun j : Nat => xf5 5 (0 + ((3 : Nat) : Int), 0 + ((3 : Nat) : Int)) (0 + (j : Int), 0 + (j : Int)) xA3) (14 + i)) = true := by decide +kernel
theorem xp_5_3_28 : (List.range 13).all (fun i => (fun j : Nat => xf5 5 (0 + ((3 : Nat) : Int), 0 + ((3 : Nat) : Int)) (0 + (j : Int), 0 + (j : Int)) xA3) (28 + i)) = true := by decide +kernel
theorem xq_5_3 : xchk (xrg 0 41 xA3 xA3) (fun q2 l => xf5 5 (0 + ((3 : Nat) : Int), 0 + ((3 : Nat) : Int)) q2 l) = true := xchk_rg (by decide +kernel) (fun j hj => by
  rcases (show j < 14 ∨ (14 ≤ j ∧ j < 28) ∨ (28 ≤ j ∧ j < 41) by omega) with h | h | h
  · exact x_pieces xp_5_3_0 (Nat.zero_le _) (by omega)
  · exact x_pieces xp_5_3_14 h.1 (by omega)
  · exact x_pieces xp_5_3_28 h.1 (by omega)) (by decide +kernel)
theorem xop_5 : xchk5 (xrg 0 4 (xcut 41 xA3 xA3) (xrg 0 41 xA3 xA3)) (fun sc => xgood sc (xS 5)) = true := xchk_rg (F := fun q1 l => xchk l (fun q2 l => xf5 5 q1 q2 l)) (by decide +kernel) (fun r hr => by
  match r, hr with
  | 0, _ => exact xq_5_0
  | 1, _ => exact xq_5_1
  | 2, _ => exact xq_5_2
  | 3, _ => exact xq_5_3
  | r + 4, hr => exact absurd hr (by omega)) (by decide +kernel)
