/-! ===== runs of op 5 ===== -/
def xF_5_0 (j : Nat) : Bool := xf5 5 (0 + ((0 : Nat) : Int), 0 + ((0 : Nat) : Int)) (0 + (j : Int), 0 + (j : Int)) xA3
theorem xp_5_0_0 : (List.range 14).all (fun i => xF_5_0 (0 + i)) = true := by decide +kernel
theorem xp_5_0_14 : (List.range 14).all (fun i => xF_5_0 (14 + i)) = true := by decide +kernel
theorem xp_5_0_28 : (List.range 13).all (fun i => xF_5_0 (28 + i)) = true := by decide +kernel
def xF_5_1 (j : Nat) : Bool := xf5 5 (0 + ((1 : Nat) : Int), 0 + ((1 : Nat) : Int)) (0 + (j : Int), 0 + (j : Int)) xA3
theorem xp_5_1_0 : (List.range 14).all (fun i => xF_5_1 (0 + i)) = true := by decide +kernel
theorem xp_5_1_14 : (List.range 14).all (fun i => xF_5_1 (14 + i)) = true := by decide +kernel
theorem xp_5_1_28 : (List.range 13).all (fun i => xF_5_1 (28 + i)) = true := by decide +kernel
def xF_5_2 (j : Nat) : Bool := xf5 5 (0 + ((2 : Nat) : Int), 0 + ((2 : Nat) : Int)) (0 + (j : Int), 0 + (j : Int)) xA3
theorem xp_5_2_0 : (List.range 14).all (fun i => xF_5_2 (0 + i)) = true := by decide +kernel
theorem xp_5_2_14 : (List.range 14).all (fun i => xF_5_2 (14 + i)) = true := by decide +kernel
theorem xp_5_2_28 : (List.range 13).all (fun i => xF_5_2 (28 + i)) = true := by decide +kernel
def xF_5_3 (j : Nat) : Bool := xf5 5 (0 + ((3 : Nat) : Int), 0 + ((3 : Nat) : Int)) (0 + (j : Int), 0 + (j : Int)) xA3
theorem xp_5_3_0 : (List.range 14).all (fun i => xF_5_3 (0 + i)) = true := by decide +kernel
theorem xp_5_3_14 : (List.range 14).all (fun i => xF_5_3 (14 + i)) = true := by decide +kernel
theorem xp_5_3_28 : (List.range 13).all (fun i => xF_5_3 (28 + i)) = true := by decide +kernel
