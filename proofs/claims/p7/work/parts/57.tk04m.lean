/-! ===== contracts: checks ===== -/
-- IceBoatsModel.many
def yD409 : List YD := yD_409 :: yD408
theorem yk_409 : ychk yKD (yct yB yD408) xMT xFT xSTX xm191 yD_409.2.1 yD_409.2.2.1 6000 = true := by decide +kernel
theorem yc_409 : ychks yKD yB xMT xFT xSTX yD409 = true := ychks_cons (d := yD_409) (L := yD408) (M := xm191) rfl yk_409 yc_408
-- IceBoatsModel.plan
def yD410 : List YD := yD_1 :: yD409
theorem yk_410 : ychk yKD (yct yB yD409) xMT xFT xSTX xm9 yD_1.2.1 yD_1.2.2.1 6000 = true := by decide +kernel
theorem yc_410 : ychks yKD yB xMT xFT xSTX yD410 = true := ychks_cons (d := yD_1) (L := yD409) (M := xm9) rfl yk_410 yc_409
-- IceBoatsModel.many
def yD411 : List YD := yD_411 :: yD410
theorem yk_411 : ychk yKD (yct yB yD410) xMT xFT xSTX xm191 yD_411.2.1 yD_411.2.2.1 6000 = true := by decide +kernel
theorem yc_411 : ychks yKD yB xMT xFT xSTX yD411 = true := ychks_cons (d := yD_411) (L := yD410) (M := xm191) rfl yk_411 yc_410
-- IceBoatsModel.plan
def yD412 : List YD := yD_412 :: yD411
theorem yk_412 : ychk yKD (yct yB yD411) xMT xFT xSTX xm235 yD_412.2.1 yD_412.2.2.1 6000 = true := by decide +kernel
theorem yc_412 : ychks yKD yB xMT xFT xSTX yD412 = true := ychks_cons (d := yD_412) (L := yD411) (M := xm235) rfl yk_412 yc_411
-- IceBoatsModel.many
def yD413 : List YD := yD_413 :: yD412
theorem yk_413 : ychk yKD (yct yB yD412) xMT xFT xSTX xm191 yD_413.2.1 yD_413.2.2.1 6000 = true := by decide +kernel
theorem yc_413 : ychks yKD yB xMT xFT xSTX yD413 = true := ychks_cons (d := yD_413) (L := yD412) (M := xm191) rfl yk_413 yc_412
-- IceBoatsModel.plan
def yD414 : List YD := yD_1 :: yD413
theorem yk_414 : ychk yKD (yct yB yD413) xMT xFT xSTX xm9 yD_1.2.1 yD_1.2.2.1 6000 = true := by decide +kernel
theorem yc_414 : ychks yKD yB xMT xFT xSTX yD414 = true := ychks_cons (d := yD_1) (L := yD413) (M := xm9) rfl yk_414 yc_413
