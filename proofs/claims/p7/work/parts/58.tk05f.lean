/-! ===== contracts: checks ===== -/
-- IceBoatsModel.many
def yD451 : List YD := yD_451 :: yD450
theorem yk_451 : ychk yKD (yct yB yD450) xMT xFT xSTX xm191 yD_451.2.1 yD_451.2.2.1 6000 = true := by decide +kernel
theorem yc_451 : ychks yKD yB xMT xFT xSTX yD451 = true := ychks_cons (d := yD_451) (L := yD450) (M := xm191) rfl yk_451 yc_450
-- IceBoatsModel.plan
def yD452 : List YD := yD_452 :: yD451
theorem yk_452 : ychk yKD (yct yB yD451) xMT xFT xSTX xm235 yD_452.2.1 yD_452.2.2.1 6000 = true := by decide +kernel
theorem yc_452 : ychks yKD yB xMT xFT xSTX yD452 = true := ychks_cons (d := yD_452) (L := yD451) (M := xm235) rfl yk_452 yc_451
-- IceBoatsModel.many
def yD453 : List YD := yD_453 :: yD452
theorem yk_453 : ychk yKD (yct yB yD452) xMT xFT xSTX xm191 yD_453.2.1 yD_453.2.2.1 6000 = true := by decide +kernel
theorem yc_453 : ychks yKD yB xMT xFT xSTX yD453 = true := ychks_cons (d := yD_453) (L := yD452) (M := xm191) rfl yk_453 yc_452
-- IceBoatsModel.plan
def yD454 : List YD := yD_1 :: yD453
theorem yk_454 : ychk yKD (yct yB yD453) xMT xFT xSTX xm9 yD_1.2.1 yD_1.2.2.1 6000 = true := by decide +kernel
theorem yc_454 : ychks yKD yB xMT xFT xSTX yD454 = true := ychks_cons (d := yD_1) (L := yD453) (M := xm9) rfl yk_454 yc_453
-- IceBoatsModel.many
def yD455 : List YD := yD_455 :: yD454
theorem yk_455 : ychk yKD (yct yB yD454) xMT xFT xSTX xm191 yD_455.2.1 yD_455.2.2.1 6000 = true := by decide +kernel
theorem yc_455 : ychks yKD yB xMT xFT xSTX yD455 = true := ychks_cons (d := yD_455) (L := yD454) (M := xm191) rfl yk_455 yc_454
-- IceBoatsModel.plan
def yD456 : List YD := yD_1 :: yD455
theorem yk_456 : ychk yKD (yct yB yD455) xMT xFT xSTX xm9 yD_1.2.1 yD_1.2.2.1 6000 = true := by decide +kernel
theorem yc_456 : ychks yKD yB xMT xFT xSTX yD456 = true := ychks_cons (d := yD_1) (L := yD455) (M := xm9) rfl yk_456 yc_455
