/-! ===== contracts: checks ===== -/
-- IceBoatsModel.many
def yD385 : List YD := yD_385 :: yD384
theorem yk_385 : ychk yKD (yct yB yD384) xMT xFT xSTX xm191 yD_385.2.1 yD_385.2.2.1 6000 = true := by decide +kernel
theorem yc_385 : ychks yKD yB xMT xFT xSTX yD385 = true := ychks_cons (d := yD_385) (L := yD384) (M := xm191) rfl yk_385 yc_384
-- IceBoatsModel.plan
def yD386 : List YD := yD_1 :: yD385
theorem yk_386 : ychk yKD (yct yB yD385) xMT xFT xSTX xm9 yD_1.2.1 yD_1.2.2.1 6000 = true := by decide +kernel
theorem yc_386 : ychks yKD yB xMT xFT xSTX yD386 = true := ychks_cons (d := yD_1) (L := yD385) (M := xm9) rfl yk_386 yc_385
-- IceBoatsModel.many
def yD387 : List YD := yD_387 :: yD386
theorem yk_387 : ychk yKD (yct yB yD386) xMT xFT xSTX xm191 yD_387.2.1 yD_387.2.2.1 6000 = true := by decide +kernel
theorem yc_387 : ychks yKD yB xMT xFT xSTX yD387 = true := ychks_cons (d := yD_387) (L := yD386) (M := xm191) rfl yk_387 yc_386
-- IceBoatsModel.plan
def yD388 : List YD := yD_388 :: yD387
theorem yk_388 : ychk yKD (yct yB yD387) xMT xFT xSTX xm235 yD_388.2.1 yD_388.2.2.1 6000 = true := by decide +kernel
theorem yc_388 : ychks yKD yB xMT xFT xSTX yD388 = true := ychks_cons (d := yD_388) (L := yD387) (M := xm235) rfl yk_388 yc_387
-- IceBoatsModel.many
def yD389 : List YD := yD_389 :: yD388
theorem yk_389 : ychk yKD (yct yB yD388) xMT xFT xSTX xm191 yD_389.2.1 yD_389.2.2.1 6000 = true := by decide +kernel
theorem yc_389 : ychks yKD yB xMT xFT xSTX yD389 = true := ychks_cons (d := yD_389) (L := yD388) (M := xm191) rfl yk_389 yc_388
-- IceBoatsModel.plan
def yD390 : List YD := yD_1 :: yD389
theorem yk_390 : ychk yKD (yct yB yD389) xMT xFT xSTX xm9 yD_1.2.1 yD_1.2.2.1 6000 = true := by decide +kernel
theorem yc_390 : ychks yKD yB xMT xFT xSTX yD390 = true := ychks_cons (d := yD_1) (L := yD389) (M := xm9) rfl yk_390 yc_389
