/-! ===== runs of op 0 ===== -/
def xF_0_0 (j : Nat) : Bool := xf5 0 (0 + ((0 : Nat) : Int), 0 + ((0 : Nat) : Int)) (0 + (j : Int), 0 + (j : Int)) xA3
theorem xp_0_0_0 : (List.range 14).all (fun i => xF_0_0 (0 + i)) = true := by decide +kernel
theorem xp_0_0_14 : (List.range 14).all (fun i => xF_0_0 (14 + i)) = true := by decide +kernel
theorem xp_0_0_28 : (List.range 13).all (fun i => xF_0_0 (28 + i)) = true := by decide +kernel
def xF_0_1 (j : Nat) : Bool := xf5 0 (0 + ((1 : Nat) : Int), 0 + ((1 : Nat) : Int)) (0 + (j : Int), 0 + (j : Int)) xA3
theorem xp_0_1_0 : (List.range 14).all (fun i => xF_0_1 (0 + i)) = true := by decide +kernel
theorem xp_0_1_14 : (List.range 14).all (fun i => xF_0_1 (14 + i)) = true := by decide +kernel
theorem xp_0_1_28 : (List.range 13).all (fun i => xF_0_1 (28 + i)) = true := by decide +kernel
def xF_0_2 (j : Nat) : Bool := xf5 0 (0 + ((2 : Nat) : Int), 0 + ((2 : Nat) : Int)) (0 + (j : Int), 0 + (j : Int)) xA3
theorem xp_0_2_0 : (List.range 14).all (fun i => xF_0_2 (0 + i)) = true := by decide +kernel
theorem xp_0_2_14 : (List.range 14).all (fun i => xF_0_2 (14 + i)) = true := by decide +kernel
theorem xp_0_2_28 : (List.range 13).all (fun i => xF_0_2 (28 + i)) = true := by decide +kernel
def xF_0_3 (j : Nat) : Bool := xf5 0 (0 + ((3 : Nat) : Int), 0 + ((3 : Nat) : Int)) (0 + (j : Int), 0 + (j : Int)) xA3
theorem xp_0_3_0 : (List.range 14).all (fun i => xF_0_3 (0 + i)) = true := by decide +kernel
theorem xp_0_3_14 : (List.range 14).all (fun i => xF_0_3 (14 + i)) = true := by decide +kernel
theorem xp_0_3_28 : (List.range 13).all (fun i => xF_0_3 (28 + i)) = true := by decide +kernel
def xF_0_4 (j : Nat) : Bool := xf5 0 (0 + ((4 : Nat) : Int), 0 + ((4 : Nat) : Int)) (0 + (j : Int), 0 + (j : Int)) xA3
theorem xp_0_4_0 : (List.range 14).all (fun i => xF_0_4 (0 + i)) = true := by decide +kernel
theorem xp_0_4_14 : (List.range 14).all (fun i => xF_0_4 (14 + i)) = true := by decide +kernel
theorem xp_0_4_28 : (List.range 13).all (fun i => xF_0_4 (28 + i)) = true := by decide +kernel
def xF_0_5 (j : Nat) : Bool := xf5 0 (0 + ((5 : Nat) : Int), 0 + ((5 : Nat) : Int)) (0 + (j : Int), 0 + (j : Int)) xA3
theorem xp_0_5_0 : (List.range 14).all (fun i => xF_0_5 (0 + i)) = true := by decide +kernel
theorem xp_0_5_14 : (List.range 14).all (fun i => xF_0_5 (14 + i)) = true := by decide +kernel
theorem xp_0_5_28 : (List.range 13).all (fun i => xF_0_5 (28 + i)) = true := by decide +kernel
