/-! ===== contracts: checks ===== -/
-- IceBoatsModel.many
def yD403 : List YD := yD_403 :: yD402
theorem yk_403 : ychk yKD (yct yB yD402) xMT xFT xSTX xm191 yD_403.2.1 yD_403.2.2.1 6000 = true := by decide +kernel
theorem yc_403 : ychks yKD yB xMT xFT xSTX yD403 = true := ychks_cons (d := yD_403) (L := yD402) (M := xm191) rfl yk_403 yc_402
-- IceBoatsModel.plan
def yD404 : List YD := yD_404 :: yD403
theorem yk_404 : ychk yKD (yct yB yD403) xMT xFT xSTX xm235 yD_404.2.1 yD_404.2.2.1 6000 = true := by decide +kernel
theorem yc_404 : ychks yKD yB xMT xFT xSTX yD404 = true := ychks_cons (d := yD_404) (L := yD403) (M := xm235) rfl yk_404 yc_403
-- IceBoatsModel.many
def yD405 : List YD := yD_405 :: yD404
theorem yk_405 : ychk yKD (yct yB yD404) xMT xFT xSTX xm191 yD_405.2.1 yD_405.2.2.1 6000 = true := by decide +kernel
theorem yc_405 : ychks yKD yB xMT xFT xSTX yD405 = true := ychks_cons (d := yD_405) (L := yD404) (M := xm191) rfl yk_405 yc_404
-- IceBoatsModel.plan
def yD406 : List YD := yD_1 :: yD405
theorem yk_406 : ychk yKD (yct yB yD405) xMT xFT xSTX xm9 yD_1.2.1 yD_1.2.2.1 6000 = true := by decide +kernel
theorem yc_406 : ychks yKD yB xMT xFT xSTX yD406 = true := ychks_cons (d := yD_1) (L := yD405) (M := xm9) rfl yk_406 yc_405
-- IceBoatsModel.many
def yD407 : List YD := yD_407 :: yD406
theorem yk_407 : ychk yKD (yct yB yD406) xMT xFT xSTX xm191 yD_407.2.1 yD_407.2.2.1 6000 = true := by decide +kernel
theorem yc_407 : ychks yKD yB xMT xFT xSTX yD407 = true := ychks_cons (d := yD_407) (L := yD406) (M := xm191) rfl yk_407 yc_406
-- IceBoatsModel.plan
def yD408 : List YD := yD_1 :: yD407
theorem yk_408 : ychk yKD (yct yB yD407) xMT xFT xSTX xm9 yD_1.2.1 yD_1.2.2.1 6000 = true := by decide +kernel
theorem yc_408 : ychks yKD yB xMT xFT xSTX yD408 = true := ychks_cons (d := yD_1) (L := yD407) (M := xm9) rfl yk_408 yc_407
