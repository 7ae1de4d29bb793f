/-! ===== contracts: checks ===== -/
-- IceBoatsModel.many
def yD469 : List YD := yD_469 :: yD468
theorem yk_469 : ychk yKD (yct yB yD468) xMT xFT xSTX xm191 yD_469.2.1 yD_469.2.2.1 6000 = true := by decide +kernel
theorem yc_469 : ychks yKD yB xMT xFT xSTX yD469 = true := ychks_cons (d := yD_469) (L := yD468) (M := xm191) rfl yk_469 yc_468
-- IceBoatsModel.plan
def yD470 : List YD := yD_1 :: yD469
theorem yk_470 : ychk yKD (yct yB yD469) xMT xFT xSTX xm9 yD_1.2.1 yD_1.2.2.1 6000 = true := by decide +kernel
theorem yc_470 : ychks yKD yB xMT xFT xSTX yD470 = true := ychks_cons (d := yD_1) (L := yD469) (M := xm9) rfl yk_470 yc_469
-- IceBoatsModel.many
def yD471 : List YD := yD_471 :: yD470
theorem yk_471 : ychk yKD (yct yB yD470) xMT xFT xSTX xm191 yD_471.2.1 yD_471.2.2.1 6000 = true := by decide +kernel
theorem yc_471 : ychks yKD yB xMT xFT xSTX yD471 = true := ychks_cons (d := yD_471) (L := yD470) (M := xm191) rfl yk_471 yc_470
-- IceBoatsModel.plan
def yD472 : List YD := yD_472 :: yD471
theorem yk_472 : ychk yKD (yct yB yD471) xMT xFT xSTX xm235 yD_472.2.1 yD_472.2.2.1 6000 = true := by decide +kernel
theorem yc_472 : ychks yKD yB xMT xFT xSTX yD472 = true := ychks_cons (d := yD_472) (L := yD471) (M := xm235) rfl yk_472 yc_471
-- IceBoatsModel.many
def yD473 : List YD := yD_473 :: yD472
theorem yk_473 : ychk yKD (yct yB yD472) xMT xFT xSTX xm191 yD_473.2.1 yD_473.2.2.1 6000 = true := by decide +kernel
theorem yc_473 : ychks yKD yB xMT xFT xSTX yD473 = true := ychks_cons (d := yD_473) (L := yD472) (M := xm191) rfl yk_473 yc_472
-- IceBoatsModel.plan
def yD474 : List YD := yD_474 :: yD473
theorem yk_474 : ychk yKD (yct yB yD473) xMT xFT xSTX xm235 yD_474.2.1 yD_474.2.2.1 6000 = true := by decide +kernel
theorem yc_474 : ychks yKD yB xMT xFT xSTX yD474 = true := ychks_cons (d := yD_474) (L := yD473) (M := xm235) rfl yk_474 yc_473
