/-! ===== contracts: checks ===== -/
-- IceBoatsModel.many
def yD391 : List YD := yD_391 :: yD390
theorem yk_391 : ychk yKD (yct yB yD390) xMT xFT xSTX xm191 yD_391.2.1 yD_391.2.2.1 6000 = true := by decide +kernel
theorem yc_391 : ychks yKD yB xMT xFT xSTX yD391 = true := ychks_cons (d := yD_391) (L := yD390) (M := xm191) rfl yk_391 yc_390
-- IceBoatsModel.plan
def yD392 : List YD := yD_1 :: yD391
theorem yk_392 : ychk yKD (yct yB yD391) xMT xFT xSTX xm9 yD_1.2.1 yD_1.2.2.1 6000 = true := by decide +kernel
theorem yc_392 : ychks yKD yB xMT xFT xSTX yD392 = true := ychks_cons (d := yD_1) (L := yD391) (M := xm9) rfl yk_392 yc_391
-- IceBoatsModel.many
def yD393 : List YD := yD_393 :: yD392
theorem yk_393 : ychk yKD (yct yB yD392) xMT xFT xSTX xm191 yD_393.2.1 yD_393.2.2.1 6000 = true := by decide +kernel
theorem yc_393 : ychks yKD yB xMT xFT xSTX yD393 = true := ychks_cons (d := yD_393) (L := yD392) (M := xm191) rfl yk_393 yc_392
-- IceBoatsModel.plan
def yD394 : List YD := yD_1 :: yD393
theorem yk_394 : ychk yKD (yct yB yD393) xMT xFT xSTX xm9 yD_1.2.1 yD_1.2.2.1 6000 = true := by decide +kernel
theorem yc_394 : ychks yKD yB xMT xFT xSTX yD394 = true := ychks_cons (d := yD_1) (L := yD393) (M := xm9) rfl yk_394 yc_393
-- IceBoatsModel.many
def yD395 : List YD := yD_395 :: yD394
theorem yk_395 : ychk yKD (yct yB yD394) xMT xFT xSTX xm191 yD_395.2.1 yD_395.2.2.1 6000 = true := by decide +kernel
theorem yc_395 : ychks yKD yB xMT xFT xSTX yD395 = true := ychks_cons (d := yD_395) (L := yD394) (M := xm191) rfl yk_395 yc_394
-- IceBoatsModel.plan
def yD396 : List YD := yD_1 :: yD395
theorem yk_396 : ychk yKD (yct yB yD395) xMT xFT xSTX xm9 yD_1.2.1 yD_1.2.2.1 6000 = true := by decide +kernel
theorem yc_396 : ychks yKD yB xMT xFT xSTX yD396 = true := ychks_cons (d := yD_1) (L := yD395) (M := xm9) rfl yk_396 yc_395
