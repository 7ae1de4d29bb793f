/-! ===== contracts: checks ===== -/
-- IceBoatsModel.many
def yD421 : List YD := yD_421 :: yD420
theorem yk_421 : ychk yKD (yct yB yD420) xMT xFT xSTX xm191 yD_421.2.1 yD_421.2.2.1 6000 = true := by decide +kernel
theorem yc_421 : ychks yKD yB xMT xFT xSTX yD421 = true := ychks_cons (d := yD_421) (L := yD420) (M := xm191) rfl yk_421 yc_420
-- IceBoatsModel.plan
def yD422 : List YD := yD_1 :: yD421
theorem yk_422 : ychk yKD (yct yB yD421) xMT xFT xSTX xm9 yD_1.2.1 yD_1.2.2.1 6000 = true := by decide +kernel
theorem yc_422 : ychks yKD yB xMT xFT xSTX yD422 = true := ychks_cons (d := yD_1) (L := yD421) (M := xm9) rfl yk_422 yc_421
-- IceBoatsModel.many
def yD423 : List YD := yD_423 :: yD422
theorem yk_423 : ychk yKD (yct yB yD422) xMT xFT xSTX xm191 yD_423.2.1 yD_423.2.2.1 6000 = true := by decide +kernel
theorem yc_423 : ychks yKD yB xMT xFT xSTX yD423 = true := ychks_cons (d := yD_423) (L := yD422) (M := xm191) rfl yk_423 yc_422
-- IceBoatsModel.plan
def yD424 : List YD := yD_1 :: yD423
theorem yk_424 : ychk yKD (yct yB yD423) xMT xFT xSTX xm9 yD_1.2.1 yD_1.2.2.1 6000 = true := by decide +kernel
theorem yc_424 : ychks yKD yB xMT xFT xSTX yD424 = true := ychks_cons (d := yD_1) (L := yD423) (M := xm9) rfl yk_424 yc_423
-- IceBoatsModel.many
def yD425 : List YD := yD_425 :: yD424
theorem yk_425 : ychk yKD (yct yB yD424) xMT xFT xSTX xm191 yD_425.2.1 yD_425.2.2.1 6000 = true := by decide +kernel
theorem yc_425 : ychks yKD yB xMT xFT xSTX yD425 = true := ychks_cons (d := yD_425) (L := yD424) (M := xm191) rfl yk_425 yc_424
-- IceBoatsModel.plan
def yD426 : List YD := yD_1 :: yD425
theorem yk_426 : ychk yKD (yct yB yD425) xMT xFT xSTX xm9 yD_1.2.1 yD_1.2.2.1 6000 = true := by decide +kernel
theorem yc_426 : ychks yKD yB xMT xFT xSTX yD426 = true := ychks_cons (d := yD_1) (L := yD425) (M := xm9) rfl yk_426 yc_425
