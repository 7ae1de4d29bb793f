/-! ===== contracts: checks ===== -/
-- IceBoatsModel.mapped
def yD355 : List YD := yD_355 :: yD354
theorem yk_355 : ychk yKD (yct yB yD354) xMT xFT xSTX xm234 yD_355.2.1 yD_355.2.2.1 6000 = true := by decide +kernel
theorem yc_355 : ychks yKD yB xMT xFT xSTX yD355 = true := ychks_cons (d := yD_355) (L := yD354) (M := xm234) rfl yk_355 yc_354
-- IceBoatsModel.many
def yD356 : List YD := yD_356 :: yD355
theorem yk_356 : ychk yKD (yct yB yD355) xMT xFT xSTX xm191 yD_356.2.1 yD_356.2.2.1 6000 = true := by decide +kernel
theorem yc_356 : ychks yKD yB xMT xFT xSTX yD356 = true := ychks_cons (d := yD_356) (L := yD355) (M := xm191) rfl yk_356 yc_355
-- IceBoatsModel.areWays
def yD357 : List YD := yD_357 :: yD356
theorem yk_357 : ychk yKD (yct yB yD356) xMT xFT xSTX xm236 yD_357.2.1 yD_357.2.2.1 6000 = true := by decide +kernel
theorem yc_357 : ychks yKD yB xMT xFT xSTX yD357 = true := ychks_cons (d := yD_357) (L := yD356) (M := xm236) rfl yk_357 yc_356
-- IceBoatsModel.comesBy
def yD358 : List YD := yD_358 :: yD357
theorem yk_358 : ychk yKD (yct yB yD357) xMT xFT xSTX xm237 yD_358.2.1 yD_358.2.2.1 6000 = true := by decide +kernel
theorem yc_358 : ychks yKD yB xMT xFT xSTX yD358 = true := ychks_cons (d := yD_358) (L := yD357) (M := xm237) rfl yk_358 yc_357
-- IceBoatsModel.plan
def yD359 : List YD := yD_1 :: yD358
theorem yk_359 : ychk yKD (yct yB yD358) xMT xFT xSTX xm9 yD_1.2.1 yD_1.2.2.1 6000 = true := by decide +kernel
theorem yc_359 : ychks yKD yB xMT xFT xSTX yD359 = true := ychks_cons (d := yD_1) (L := yD358) (M := xm9) rfl yk_359 yc_358
-- IceBoatsModel.many
def yD360 : List YD := yD_360 :: yD359
theorem yk_360 : ychk yKD (yct yB yD359) xMT xFT xSTX xm191 yD_360.2.1 yD_360.2.2.1 6000 = true := by decide +kernel
theorem yc_360 : ychks yKD yB xMT xFT xSTX yD360 = true := ychks_cons (d := yD_360) (L := yD359) (M := xm191) rfl yk_360 yc_359
