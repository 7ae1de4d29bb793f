/-! ===== contracts: checks ===== -/
-- IceBoatsModel.many
def yD439 : List YD := yD_439 :: yD438
theorem yk_439 : ychk yKD (yct yB yD438) xMT xFT xSTX xm191 yD_439.2.1 yD_439.2.2.1 6000 = true := by decide +kernel
theorem yc_439 : ychks yKD yB xMT xFT xSTX yD439 = true := ychks_cons (d := yD_439) (L := yD438) (M := xm191) rfl yk_439 yc_438
-- IceBoatsModel.plan
def yD440 : List YD := yD_1 :: yD439
theorem yk_440 : ychk yKD (yct yB yD439) xMT xFT xSTX xm9 yD_1.2.1 yD_1.2.2.1 6000 = true := by decide +kernel
theorem yc_440 : ychks yKD yB xMT xFT xSTX yD440 = true := ychks_cons (d := yD_1) (L := yD439) (M := xm9) rfl yk_440 yc_439
-- IceBoatsModel.many
def yD441 : List YD := yD_441 :: yD440
theorem yk_441 : ychk yKD (yct yB yD440) xMT xFT xSTX xm191 yD_441.2.1 yD_441.2.2.1 6000 = true := by decide +kernel
theorem yc_441 : ychks yKD yB xMT xFT xSTX yD441 = true := ychks_cons (d := yD_441) (L := yD440) (M := xm191) rfl yk_441 yc_440
-- IceBoatsModel.plan
def yD442 : List YD := yD_1 :: yD441
theorem yk_442 : ychk yKD (yct yB yD441) xMT xFT xSTX xm9 yD_1.2.1 yD_1.2.2.1 6000 = true := by decide +kernel
theorem yc_442 : ychks yKD yB xMT xFT xSTX yD442 = true := ychks_cons (d := yD_1) (L := yD441) (M := xm9) rfl yk_442 yc_441
-- IceBoatsModel.many
def yD443 : List YD := yD_443 :: yD442
theorem yk_443 : ychk yKD (yct yB yD442) xMT xFT xSTX xm191 yD_443.2.1 yD_443.2.2.1 6000 = true := by decide +kernel
theorem yc_443 : ychks yKD yB xMT xFT xSTX yD443 = true := ychks_cons (d := yD_443) (L := yD442) (M := xm191) rfl yk_443 yc_442
-- IceBoatsModel.plan
def yD444 : List YD := yD_444 :: yD443
theorem yk_444 : ychk yKD (yct yB yD443) xMT xFT xSTX xm235 yD_444.2.1 yD_444.2.2.1 6000 = true := by decide +kernel
theorem yc_444 : ychks yKD yB xMT xFT xSTX yD444 = true := ychks_cons (d := yD_444) (L := yD443) (M := xm235) rfl yk_444 yc_443
