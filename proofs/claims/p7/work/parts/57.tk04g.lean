/-! ===== contracts: checks ===== -/
-- IceBoatsModel.many
def yD373 : List YD := yD_373 :: yD372
theorem yk_373 : ychk yKD (yct yB yD372) xMT xFT xSTX xm191 yD_373.2.1 yD_373.2.2.1 6000 = true := by decide +kernel
theorem yc_373 : ychks yKD yB xMT xFT xSTX yD373 = true := ychks_cons (d := yD_373) (L := yD372) (M := xm191) rfl yk_373 yc_372
-- IceBoatsModel.plan
def yD374 : List YD := yD_1 :: yD373
theorem yk_374 : ychk yKD (yct yB yD373) xMT xFT xSTX xm9 yD_1.2.1 yD_1.2.2.1 6000 = true := by decide +kernel
theorem yc_374 : ychks yKD yB xMT xFT xSTX yD374 = true := ychks_cons (d := yD_1) (L := yD373) (M := xm9) rfl yk_374 yc_373
-- IceBoatsModel.many
def yD375 : List YD := yD_375 :: yD374
theorem yk_375 : ychk yKD (yct yB yD374) xMT xFT xSTX xm191 yD_375.2.1 yD_375.2.2.1 6000 = true := by decide +kernel
theorem yc_375 : ychks yKD yB xMT xFT xSTX yD375 = true := ychks_cons (d := yD_375) (L := yD374) (M := xm191) rfl yk_375 yc_374
-- IceBoatsModel.plan
def yD376 : List YD := yD_1 :: yD375
theorem yk_376 : ychk yKD (yct yB yD375) xMT xFT xSTX xm9 yD_1.2.1 yD_1.2.2.1 6000 = true := by decide +kernel
theorem yc_376 : ychks yKD yB xMT xFT xSTX yD376 = true := ychks_cons (d := yD_1) (L := yD375) (M := xm9) rfl yk_376 yc_375
-- IceBoatsModel.many
def yD377 : List YD := yD_377 :: yD376
theorem yk_377 : ychk yKD (yct yB yD376) xMT xFT xSTX xm191 yD_377.2.1 yD_377.2.2.1 6000 = true := by decide +kernel
theorem yc_377 : ychks yKD yB xMT xFT xSTX yD377 = true := ychks_cons (d := yD_377) (L := yD376) (M := xm191) rfl yk_377 yc_376
-- IceBoatsModel.plan
def yD378 : List YD := yD_1 :: yD377
theorem yk_378 : ychk yKD (yct yB yD377) xMT xFT xSTX xm9 yD_1.2.1 yD_1.2.2.1 6000 = true := by decide +kernel
theorem yc_378 : ychks yKD yB xMT xFT xSTX yD378 = true := ychks_cons (d := yD_1) (L := yD377) (M := xm9) rfl yk_378 yc_377
