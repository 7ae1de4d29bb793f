/-! ===== contracts: checks ===== -/
-- IceBoatsModel.many
def yD445 : List YD := yD_445 :: yD444
theorem yk_445 : ychk yKD (yct yB yD444) xMT xFT xSTX xm191 yD_445.2.1 yD_445.2.2.1 6000 = true := by decide +kernel
theorem yc_445 : ychks yKD yB xMT xFT xSTX yD445 = true := ychks_cons (d := yD_445) (L := yD444) (M := xm191) rfl yk_445 yc_444
-- IceBoatsModel.plan
def yD446 : List YD := yD_1 :: yD445
theorem yk_446 : ychk yKD (yct yB yD445) xMT xFT xSTX xm9 yD_1.2.1 yD_1.2.2.1 6000 = true := by decide +kernel
theorem yc_446 : ychks yKD yB xMT xFT xSTX yD446 = true := ychks_cons (d := yD_1) (L := yD445) (M := xm9) rfl yk_446 yc_445
-- IceBoatsModel.many
def yD447 : List YD := yD_447 :: yD446
theorem yk_447 : ychk yKD (yct yB yD446) xMT xFT xSTX xm191 yD_447.2.1 yD_447.2.2.1 6000 = true := by decide +kernel
theorem yc_447 : ychks yKD yB xMT xFT xSTX yD447 = true := ychks_cons (d := yD_447) (L := yD446) (M := xm191) rfl yk_447 yc_446
-- IceBoatsModel.plan
def yD448 : List YD := yD_448 :: yD447
theorem yk_448 : ychk yKD (yct yB yD447) xMT xFT xSTX xm235 yD_448.2.1 yD_448.2.2.1 6000 = true := by decide +kernel
theorem yc_448 : ychks yKD yB xMT xFT xSTX yD448 = true := ychks_cons (d := yD_448) (L := yD447) (M := xm235) rfl yk_448 yc_447
-- IceBoatsModel.many
def yD449 : List YD := yD_449 :: yD448
theorem yk_449 : ychk yKD (yct yB yD448) xMT xFT xSTX xm191 yD_449.2.1 yD_449.2.2.1 6000 = true := by decide +kernel
theorem yc_449 : ychks yKD yB xMT xFT xSTX yD449 = true := ychks_cons (d := yD_449) (L := yD448) (M := xm191) rfl yk_449 yc_448
-- IceBoatsModel.plan
def yD450 : List YD := yD_450 :: yD449
theorem yk_450 : ychk yKD (yct yB yD449) xMT xFT xSTX xm235 yD_450.2.1 yD_450.2.2.1 6000 = true := by decide +kernel
theorem yc_450 : ychks yKD yB xMT xFT xSTX yD450 = true := ychks_cons (d := yD_450) (L := yD449) (M := xm235) rfl yk_450 yc_449
