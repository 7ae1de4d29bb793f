/-! ===== contracts: checks ===== -/
-- IceBoatsModel.many
def yD463 : List YD := yD_463 :: yD462
theorem yk_463 : ychk yKD (yct yB yD462) xMT xFT xSTX xm191 yD_463.2.1 yD_463.2.2.1 6000 = true := by decide +kernel
theorem yc_463 : ychks yKD yB xMT xFT xSTX yD463 = true := ychks_cons (d := yD_463) (L := yD462) (M := xm191) rfl yk_463 yc_462
-- IceBoatsModel.plan
def yD464 : List YD := yD_464 :: yD463
theorem yk_464 : ychk yKD (yct yB yD463) xMT xFT xSTX xm235 yD_464.2.1 yD_464.2.2.1 6000 = true := by decide +kernel
theorem yc_464 : ychks yKD yB xMT xFT xSTX yD464 = true := ychks_cons (d := yD_464) (L := yD463) (M := xm235) rfl yk_464 yc_463
-- IceBoatsModel.many
def yD465 : List YD := yD_465 :: yD464
theorem yk_465 : ychk yKD (yct yB yD464) xMT xFT xSTX xm191 yD_465.2.1 yD_465.2.2.1 6000 = true := by decide +kernel
theorem yc_465 : ychks yKD yB xMT xFT xSTX yD465 = true := ychks_cons (d := yD_465) (L := yD464) (M := xm191) rfl yk_465 yc_464
-- IceBoatsModel.plan
def yD466 : List YD := yD_466 :: yD465
theorem yk_466 : ychk yKD (yct yB yD465) xMT xFT xSTX xm235 yD_466.2.1 yD_466.2.2.1 6000 = true := by decide +kernel
theorem yc_466 : ychks yKD yB xMT xFT xSTX yD466 = true := ychks_cons (d := yD_466) (L := yD465) (M := xm235) rfl yk_466 yc_465
-- IceBoatsModel.many
def yD467 : List YD := yD_467 :: yD466
theorem yk_467 : ychk yKD (yct yB yD466) xMT xFT xSTX xm191 yD_467.2.1 yD_467.2.2.1 6000 = true := by decide +kernel
theorem yc_467 : ychks yKD yB xMT xFT xSTX yD467 = true := ychks_cons (d := yD_467) (L := yD466) (M := xm191) rfl yk_467 yc_466
-- IceBoatsModel.plan
def yD468 : List YD := yD_468 :: yD467
theorem yk_468 : ychk yKD (yct yB yD467) xMT xFT xSTX xm235 yD_468.2.1 yD_468.2.2.1 6000 = true := by decide +kernel
theorem yc_468 : ychks yKD yB xMT xFT xSTX yD468 = true := ychks_cons (d := yD_468) (L := yD467) (M := xm235) rfl yk_468 yc_467
