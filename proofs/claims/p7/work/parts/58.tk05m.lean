/-! ===== contracts: checks ===== -/
-- IceBoatsModel.upper
def yD493 : List YD := yD_493 :: yD492
theorem yk_493 : ychk yKD (yct yB yD492) xMT xFT xSTX xm245 yD_493.2.1 yD_493.2.2.1 6000 = true := by decide +kernel
theorem yc_493 : ychks yKD yB xMT xFT xSTX yD493 = true := ychks_cons (d := yD_493) (L := yD492) (M := xm245) rfl yk_493 yc_492
-- IceBoatsModel.lower
def yD494 : List YD := yD_494 :: yD493
theorem yk_494 : ychk yKD (yct yB yD493) xMT xFT xSTX xm246 yD_494.2.1 yD_494.2.2.1 6000 = true := by decide +kernel
theorem yc_494 : ychks yKD yB xMT xFT xSTX yD494 = true := ychks_cons (d := yD_494) (L := yD493) (M := xm246) rfl yk_494 yc_493
-- IceBoatsModel.counts
def yD495 : List YD := yD_495 :: yD494
theorem yk_495 : ychk yKD (yct yB yD494) xMT xFT xSTX xm248 yD_495.2.1 yD_495.2.2.1 6000 = true := by decide +kernel
theorem yc_495 : ychks yKD yB xMT xFT xSTX yD495 = true := ychks_cons (d := yD_495) (L := yD494) (M := xm248) rfl yk_495 yc_494
-- IceBoatsModel.count
def yD496 : List YD := yD_496 :: yD495
theorem yk_496 : ychk yKD (yct yB yD495) xMT xFT xSTX xm247 yD_496.2.1 yD_496.2.2.1 6000 = true := by decide +kernel
theorem yc_496 : ychks yKD yB xMT xFT xSTX yD496 = true := ychks_cons (d := yD_496) (L := yD495) (M := xm247) rfl yk_496 yc_495
-- IceBoatsModel.finding
def yD497 : List YD := yD_497 :: yD496
theorem yk_497 : ychk yKD (yct yB yD496) xMT xFT xSTX xm249 yD_497.2.1 yD_497.2.2.1 6000 = true := by decide +kernel
theorem yc_497 : ychks yKD yB xMT xFT xSTX yD497 = true := ychks_cons (d := yD_497) (L := yD496) (M := xm249) rfl yk_497 yc_496
-- IceBoatsModel.findings
def yD498 : List YD := yD_498 :: yD497
theorem yk_498 : ychk yKD (yct yB yD497) xMT xFT xSTX xm250 yD_498.2.1 yD_498.2.2.1 6000 = true := by decide +kernel
theorem yc_498 : ychks yKD yB xMT xFT xSTX yD498 = true := ychks_cons (d := yD_498) (L := yD497) (M := xm250) rfl yk_498 yc_497
