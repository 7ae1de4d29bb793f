/-! ===== contracts: checks ===== -/
-- IceBoatsModel.many
def yD397 : List YD := yD_397 :: yD396
theorem yk_397 : ychk yKD (yct yB yD396) xMT xFT xSTX xm191 yD_397.2.1 yD_397.2.2.1 6000 = true := by decide +kernel
theorem yc_397 : ychks yKD yB xMT xFT xSTX yD397 = true := ychks_cons (d := yD_397) (L := yD396) (M := xm191) rfl yk_397 yc_396
-- IceBoatsModel.plan
def yD398 : List YD := yD_1 :: yD397
theorem yk_398 : ychk yKD (yct yB yD397) xMT xFT xSTX xm9 yD_1.2.1 yD_1.2.2.1 6000 = true := by decide +kernel
theorem yc_398 : ychks yKD yB xMT xFT xSTX yD398 = true := ychks_cons (d := yD_1) (L := yD397) (M := xm9) rfl yk_398 yc_397
-- IceBoatsModel.many
def yD399 : List YD := yD_399 :: yD398
theorem yk_399 : ychk yKD (yct yB yD398) xMT xFT xSTX xm191 yD_399.2.1 yD_399.2.2.1 6000 = true := by decide +kernel
theorem yc_399 : ychks yKD yB xMT xFT xSTX yD399 = true := ychks_cons (d := yD_399) (L := yD398) (M := xm191) rfl yk_399 yc_398
-- IceBoatsModel.plan
def yD400 : List YD := yD_1 :: yD399
theorem yk_400 : ychk yKD (yct yB yD399) xMT xFT xSTX xm9 yD_1.2.1 yD_1.2.2.1 6000 = true := by decide +kernel
theorem yc_400 : ychks yKD yB xMT xFT xSTX yD400 = true := ychks_cons (d := yD_1) (L := yD399) (M := xm9) rfl yk_400 yc_399
-- IceBoatsModel.many
def yD401 : List YD := yD_401 :: yD400
theorem yk_401 : ychk yKD (yct yB yD400) xMT xFT xSTX xm191 yD_401.2.1 yD_401.2.2.1 6000 = true := by decide +kernel
theorem yc_401 : ychks yKD yB xMT xFT xSTX yD401 = true := ychks_cons (d := yD_401) (L := yD400) (M := xm191) rfl yk_401 yc_400
-- IceBoatsModel.plan
def yD402 : List YD := yD_1 :: yD401
theorem yk_402 : ychk yKD (yct yB yD401) xMT xFT xSTX xm9 yD_1.2.1 yD_1.2.2.1 6000 = true := by decide +kernel
theorem yc_402 : ychks yKD yB xMT xFT xSTX yD402 = true := ychks_cons (d := yD_1) (L := yD401) (M := xm9) rfl yk_402 yc_401
