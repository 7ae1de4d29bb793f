/-! ===== contracts: checks ===== -/
-- IceBoatsModel.comesBy
def yD361 : List YD := yD_361 :: yD360
theorem yk_361 : ychk yKD (yct yB yD360) xMT xFT xSTX xm237 yD_361.2.1 yD_361.2.2.1 6000 = true := by decide +kernel
theorem yc_361 : ychks yKD yB xMT xFT xSTX yD361 = true := ychks_cons (d := yD_361) (L := yD360) (M := xm237) rfl yk_361 yc_360
-- IceBoatsModel.plan
def yD362 : List YD := yD_1 :: yD361
theorem yk_362 : ychk yKD (yct yB yD361) xMT xFT xSTX xm9 yD_1.2.1 yD_1.2.2.1 6000 = true := by decide +kernel
theorem yc_362 : ychks yKD yB xMT xFT xSTX yD362 = true := ychks_cons (d := yD_1) (L := yD361) (M := xm9) rfl yk_362 yc_361
-- IceBoatsModel.many
def yD363 : List YD := yD_363 :: yD362
theorem yk_363 : ychk yKD (yct yB yD362) xMT xFT xSTX xm191 yD_363.2.1 yD_363.2.2.1 6000 = true := by decide +kernel
theorem yc_363 : ychks yKD yB xMT xFT xSTX yD363 = true := ychks_cons (d := yD_363) (L := yD362) (M := xm191) rfl yk_363 yc_362
-- IceBoatsModel.plan
def yD364 : List YD := yD_1 :: yD363
theorem yk_364 : ychk yKD (yct yB yD363) xMT xFT xSTX xm9 yD_1.2.1 yD_1.2.2.1 6000 = true := by decide +kernel
theorem yc_364 : ychks yKD yB xMT xFT xSTX yD364 = true := ychks_cons (d := yD_1) (L := yD363) (M := xm9) rfl yk_364 yc_363
-- IceBoatsModel.many
def yD365 : List YD := yD_365 :: yD364
theorem yk_365 : ychk yKD (yct yB yD364) xMT xFT xSTX xm191 yD_365.2.1 yD_365.2.2.1 6000 = true := by decide +kernel
theorem yc_365 : ychks yKD yB xMT xFT xSTX yD365 = true := ychks_cons (d := yD_365) (L := yD364) (M := xm191) rfl yk_365 yc_364
-- IceBoatsModel.plan
def yD366 : List YD := yD_1 :: yD365
theorem yk_366 : ychk yKD (yct yB yD365) xMT xFT xSTX xm9 yD_1.2.1 yD_1.2.2.1 6000 = true := by decide +kernel
theorem yc_366 : ychks yKD yB xMT xFT xSTX yD366 = true := ychks_cons (d := yD_1) (L := yD365) (M := xm9) rfl yk_366 yc_365
