/-! ===== contracts: checks ===== -/
-- IceBoatsModel.many
def yD427 : List YD := yD_427 :: yD426
theorem yk_427 : ychk yKD (yct yB yD426) xMT xFT xSTX xm191 yD_427.2.1 yD_427.2.2.1 6000 = true := by decide +kernel
theorem yc_427 : ychks yKD yB xMT xFT xSTX yD427 = true := ychks_cons (d := yD_427) (L := yD426) (M := xm191) rfl yk_427 yc_426
-- IceBoatsModel.plan
def yD428 : List YD := yD_1 :: yD427
theorem yk_428 : ychk yKD (yct yB yD427) xMT xFT xSTX xm9 yD_1.2.1 yD_1.2.2.1 6000 = true := by decide +kernel
theorem yc_428 : ychks yKD yB xMT xFT xSTX yD428 = true := ychks_cons (d := yD_1) (L := yD427) (M := xm9) rfl yk_428 yc_427
-- IceBoatsModel.many
def yD429 : List YD := yD_429 :: yD428
theorem yk_429 : ychk yKD (yct yB yD428) xMT xFT xSTX xm191 yD_429.2.1 yD_429.2.2.1 6000 = true := by decide +kernel
theorem yc_429 : ychks yKD yB xMT xFT xSTX yD429 = true := ychks_cons (d := yD_429) (L := yD428) (M := xm191) rfl yk_429 yc_428
-- IceBoatsModel.plan
def yD430 : List YD := yD_1 :: yD429
theorem yk_430 : ychk yKD (yct yB yD429) xMT xFT xSTX xm9 yD_1.2.1 yD_1.2.2.1 6000 = true := by decide +kernel
theorem yc_430 : ychks yKD yB xMT xFT xSTX yD430 = true := ychks_cons (d := yD_1) (L := yD429) (M := xm9) rfl yk_430 yc_429
-- IceBoatsModel.many
def yD431 : List YD := yD_431 :: yD430
theorem yk_431 : ychk yKD (yct yB yD430) xMT xFT xSTX xm191 yD_431.2.1 yD_431.2.2.1 6000 = true := by decide +kernel
theorem yc_431 : ychks yKD yB xMT xFT xSTX yD431 = true := ychks_cons (d := yD_431) (L := yD430) (M := xm191) rfl yk_431 yc_430
-- IceBoatsModel.plan
def yD432 : List YD := yD_1 :: yD431
theorem yk_432 : ychk yKD (yct yB yD431) xMT xFT xSTX xm9 yD_1.2.1 yD_1.2.2.1 6000 = true := by decide +kernel
theorem yc_432 : ychks yKD yB xMT xFT xSTX yD432 = true := ychks_cons (d := yD_1) (L := yD431) (M := xm9) rfl yk_432 yc_431
