/-! ===== contracts: checks ===== -/
-- IceBoatsModel.many
def yD457 : List YD := yD_457 :: yD456
theorem yk_457 : ychk yKD (yct yB yD456) xMT xFT xSTX xm191 yD_457.2.1 yD_457.2.2.1 6000 = true := by decide +kernel
theorem yc_457 : ychks yKD yB xMT xFT xSTX yD457 = true := ychks_cons (d := yD_457) (L := yD456) (M := xm191) rfl yk_457 yc_456
-- IceBoatsModel.plan
def yD458 : List YD := yD_1 :: yD457
theorem yk_458 : ychk yKD (yct yB yD457) xMT xFT xSTX xm9 yD_1.2.1 yD_1.2.2.1 6000 = true := by decide +kernel
theorem yc_458 : ychks yKD yB xMT xFT xSTX yD458 = true := ychks_cons (d := yD_1) (L := yD457) (M := xm9) rfl yk_458 yc_457
-- IceBoatsModel.many
def yD459 : List YD := yD_459 :: yD458
theorem yk_459 : ychk yKD (yct yB yD458) xMT xFT xSTX xm191 yD_459.2.1 yD_459.2.2.1 6000 = true := by decide +kernel
theorem yc_459 : ychks yKD yB xMT xFT xSTX yD459 = true := ychks_cons (d := yD_459) (L := yD458) (M := xm191) rfl yk_459 yc_458
-- IceBoatsModel.plan
def yD460 : List YD := yD_460 :: yD459
theorem yk_460 : ychk yKD (yct yB yD459) xMT xFT xSTX xm235 yD_460.2.1 yD_460.2.2.1 6000 = true := by decide +kernel
theorem yc_460 : ychks yKD yB xMT xFT xSTX yD460 = true := ychks_cons (d := yD_460) (L := yD459) (M := xm235) rfl yk_460 yc_459
-- IceBoatsModel.many
def yD461 : List YD := yD_461 :: yD460
theorem yk_461 : ychk yKD (yct yB yD460) xMT xFT xSTX xm191 yD_461.2.1 yD_461.2.2.1 6000 = true := by decide +kernel
theorem yc_461 : ychks yKD yB xMT xFT xSTX yD461 = true := ychks_cons (d := yD_461) (L := yD460) (M := xm191) rfl yk_461 yc_460
-- IceBoatsModel.plan
def yD462 : List YD := yD_1 :: yD461
theorem yk_462 : ychk yKD (yct yB yD461) xMT xFT xSTX xm9 yD_1.2.1 yD_1.2.2.1 6000 = true := by decide +kernel
theorem yc_462 : ychks yKD yB xMT xFT xSTX yD462 = true := ychks_cons (d := yD_1) (L := yD461) (M := xm9) rfl yk_462 yc_461
