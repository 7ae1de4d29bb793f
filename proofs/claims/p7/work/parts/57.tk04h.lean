/-! ===== contracts: checks ===== -/
-- IceBoatsModel.many
def yD379 : List YD := yD_379 :: yD378
theorem yk_379 : ychk yKD (yct yB yD378) xMT xFT xSTX xm191 yD_379.2.1 yD_379.2.2.1 6000 = true := by decide +kernel
theorem yc_379 : ychks yKD yB xMT xFT xSTX yD379 = true := ychks_cons (d := yD_379) (L := yD378) (M := xm191) rfl yk_379 yc_378
-- IceBoatsModel.plan
def yD380 : List YD := yD_1 :: yD379
theorem yk_380 : ychk yKD (yct yB yD379) xMT xFT xSTX xm9 yD_1.2.1 yD_1.2.2.1 6000 = true := by decide +kernel
theorem yc_380 : ychks yKD yB xMT xFT xSTX yD380 = true := ychks_cons (d := yD_1) (L := yD379) (M := xm9) rfl yk_380 yc_379
-- IceBoatsModel.many
def yD381 : List YD := yD_381 :: yD380
theorem yk_381 : ychk yKD (yct yB yD380) xMT xFT xSTX xm191 yD_381.2.1 yD_381.2.2.1 6000 = true := by decide +kernel
theorem yc_381 : ychks yKD yB xMT xFT xSTX yD381 = true := ychks_cons (d := yD_381) (L := yD380) (M := xm191) rfl yk_381 yc_380
-- IceBoatsModel.plan
def yD382 : List YD := yD_1 :: yD381
theorem yk_382 : ychk yKD (yct yB yD381) xMT xFT xSTX xm9 yD_1.2.1 yD_1.2.2.1 6000 = true := by decide +kernel
theorem yc_382 : ychks yKD yB xMT xFT xSTX yD382 = true := ychks_cons (d := yD_1) (L := yD381) (M := xm9) rfl yk_382 yc_381
-- IceBoatsModel.many
def yD383 : List YD := yD_383 :: yD382
theorem yk_383 : ychk yKD (yct yB yD382) xMT xFT xSTX xm191 yD_383.2.1 yD_383.2.2.1 6000 = true := by decide +kernel
theorem yc_383 : ychks yKD yB xMT xFT xSTX yD383 = true := ychks_cons (d := yD_383) (L := yD382) (M := xm191) rfl yk_383 yc_382
-- IceBoatsModel.plan
def yD384 : List YD := yD_1 :: yD383
theorem yk_384 : ychk yKD (yct yB yD383) xMT xFT xSTX xm9 yD_1.2.1 yD_1.2.2.1 6000 = true := by decide +kernel
theorem yc_384 : ychks yKD yB xMT xFT xSTX yD384 = true := ychks_cons (d := yD_1) (L := yD383) (M := xm9) rfl yk_384 yc_383
