/-! ===== contracts: checks ===== -/
-- IceBoatsModel.many
def yD367 : List YD := yD_367 :: yD366
theorem yk_367 : ychk yKD (yct yB yD366) xMT xFT xSTX xm191 yD_367.2.1 yD_367.2.2.1 6000 = true := by decide +kernel
theorem yc_367 : ychks yKD yB xMT xFT xSTX yD367 = true := ychks_cons (d := yD_367) (L := yD366) (M := xm191) rfl yk_367 yc_366
-- IceBoatsModel.plan
def yD368 : List YD := yD_1 :: yD367
theorem yk_368 : ychk yKD (yct yB yD367) xMT xFT xSTX xm9 yD_1.2.1 yD_1.2.2.1 6000 = true := by decide +kernel
theorem yc_368 : ychks yKD yB xMT xFT xSTX yD368 = true := ychks_cons (d := yD_1) (L := yD367) (M := xm9) rfl yk_368 yc_367
-- IceBoatsModel.many
def yD369 : List YD := yD_369 :: yD368
theorem yk_369 : ychk yKD (yct yB yD368) xMT xFT xSTX xm191 yD_369.2.1 yD_369.2.2.1 6000 = true := by decide +kernel
theorem yc_369 : ychks yKD yB xMT xFT xSTX yD369 = true := ychks_cons (d := yD_369) (L := yD368) (M := xm191) rfl yk_369 yc_368
-- IceBoatsModel.plan
def yD370 : List YD := yD_1 :: yD369
theorem yk_370 : ychk yKD (yct yB yD369) xMT xFT xSTX xm9 yD_1.2.1 yD_1.2.2.1 6000 = true := by decide +kernel
theorem yc_370 : ychks yKD yB xMT xFT xSTX yD370 = true := ychks_cons (d := yD_1) (L := yD369) (M := xm9) rfl yk_370 yc_369
-- IceBoatsModel.many
def yD371 : List YD := yD_371 :: yD370
theorem yk_371 : ychk yKD (yct yB yD370) xMT xFT xSTX xm191 yD_371.2.1 yD_371.2.2.1 6000 = true := by decide +kernel
theorem yc_371 : ychks yKD yB xMT xFT xSTX yD371 = true := ychks_cons (d := yD_371) (L := yD370) (M := xm191) rfl yk_371 yc_370
-- IceBoatsModel.plan
def yD372 : List YD := yD_1 :: yD371
theorem yk_372 : ychk yKD (yct yB yD371) xMT xFT xSTX xm9 yD_1.2.1 yD_1.2.2.1 6000 = true := by decide +kernel
theorem yc_372 : ychks yKD yB xMT xFT xSTX yD372 = true := ychks_cons (d := yD_1) (L := yD371) (M := xm9) rfl yk_372 yc_371
