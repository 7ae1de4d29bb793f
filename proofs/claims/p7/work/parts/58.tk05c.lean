/-! ===== contracts: checks ===== -/
-- IceBoatsModel.many
def yD433 : List YD := yD_433 :: yD432
theorem yk_433 : ychk yKD (yct yB yD432) xMT xFT xSTX xm191 yD_433.2.1 yD_433.2.2.1 6000 = true := by decide +kernel
theorem yc_433 : ychks yKD yB xMT xFT xSTX yD433 = true := ychks_cons (d := yD_433) (L := yD432) (M := xm191) rfl yk_433 yc_432
-- IceBoatsModel.plan
def yD434 : List YD := yD_1 :: yD433
theorem yk_434 : ychk yKD (yct yB yD433) xMT xFT xSTX xm9 yD_1.2.1 yD_1.2.2.1 6000 = true := by decide +kernel
theorem yc_434 : ychks yKD yB xMT xFT xSTX yD434 = true := ychks_cons (d := yD_1) (L := yD433) (M := xm9) rfl yk_434 yc_433
-- IceBoatsModel.many
def yD435 : List YD := yD_435 :: yD434
theorem yk_435 : ychk yKD (yct yB yD434) xMT xFT xSTX xm191 yD_435.2.1 yD_435.2.2.1 6000 = true := by decide +kernel
theorem yc_435 : ychks yKD yB xMT xFT xSTX yD435 = true := ychks_cons (d := yD_435) (L := yD434) (M := xm191) rfl yk_435 yc_434
-- IceBoatsModel.plan
def yD436 : List YD := yD_436 :: yD435
theorem yk_436 : ychk yKD (yct yB yD435) xMT xFT xSTX xm235 yD_436.2.1 yD_436.2.2.1 6000 = true := by decide +kernel
theorem yc_436 : ychks yKD yB xMT xFT xSTX yD436 = true := ychks_cons (d := yD_436) (L := yD435) (M := xm235) rfl yk_436 yc_435
-- IceBoatsModel.many
def yD437 : List YD := yD_437 :: yD436
theorem yk_437 : ychk yKD (yct yB yD436) xMT xFT xSTX xm191 yD_437.2.1 yD_437.2.2.1 6000 = true := by decide +kernel
theorem yc_437 : ychks yKD yB xMT xFT xSTX yD437 = true := ychks_cons (d := yD_437) (L := yD436) (M := xm191) rfl yk_437 yc_436
-- IceBoatsModel.plan
def yD438 : List YD := yD_1 :: yD437
theorem yk_438 : ychk yKD (yct yB yD437) xMT xFT xSTX xm9 yD_1.2.1 yD_1.2.2.1 6000 = true := by decide +kernel
theorem yc_438 : ychks yKD yB xMT xFT xSTX yD438 = true := ychks_cons (d := yD_1) (L := yD437) (M := xm9) rfl yk_438 yc_437
