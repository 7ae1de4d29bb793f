/-! ===== contracts: checks ===== -/
-- IceBoatsModel.many
def yD475 : List YD := yD_475 :: yD474
theorem yk_475 : ychk yKD (yct yB yD474) xMT xFT xSTX xm191 yD_475.2.1 yD_475.2.2.1 6000 = true := by decide +kernel
theorem yc_475 : ychks yKD yB xMT xFT xSTX yD475 = true := ychks_cons (d := yD_475) (L := yD474) (M := xm191) rfl yk_475 yc_474
-- IceBoatsModel.plan
def yD476 : List YD := yD_476 :: yD475
theorem yk_476 : ychk yKD (yct yB yD475) xMT xFT xSTX xm235 yD_476.2.1 yD_476.2.2.1 6000 = true := by decide +kernel
theorem yc_476 : ychks yKD yB xMT xFT xSTX yD476 = true := ychks_cons (d := yD_476) (L := yD475) (M := xm235) rfl yk_476 yc_475
-- IceBoatsModel.many
def yD477 : List YD := yD_477 :: yD476
theorem yk_477 : ychk yKD (yct yB yD476) xMT xFT xSTX xm191 yD_477.2.1 yD_477.2.2.1 6000 = true := by decide +kernel
theorem yc_477 : ychks yKD yB xMT xFT xSTX yD477 = true := ychks_cons (d := yD_477) (L := yD476) (M := xm191) rfl yk_477 yc_476
-- IceBoatsModel.plan
def yD478 : List YD := yD_478 :: yD477
theorem yk_478 : ychk yKD (yct yB yD477) xMT xFT xSTX xm235 yD_478.2.1 yD_478.2.2.1 6000 = true := by decide +kernel
theorem yc_478 : ychks yKD yB xMT xFT xSTX yD478 = true := ychks_cons (d := yD_478) (L := yD477) (M := xm235) rfl yk_478 yc_477
-- IceBoatsModel.many
def yD479 : List YD := yD_479 :: yD478
theorem yk_479 : ychk yKD (yct yB yD478) xMT xFT xSTX xm191 yD_479.2.1 yD_479.2.2.1 6000 = true := by decide +kernel
theorem yc_479 : ychks yKD yB xMT xFT xSTX yD479 = true := ychks_cons (d := yD_479) (L := yD478) (M := xm191) rfl yk_479 yc_478
-- IceBoatsModel.plan
def yD480 : List YD := yD_480 :: yD479
theorem yk_480 : ychk yKD (yct yB yD479) xMT xFT xSTX xm235 yD_480.2.1 yD_480.2.2.1 6000 = true := by decide +kernel
theorem yc_480 : ychks yKD yB xMT xFT xSTX yD480 = true := ychks_cons (d := yD_480) (L := yD479) (M := xm235) rfl yk_480 yc_479
