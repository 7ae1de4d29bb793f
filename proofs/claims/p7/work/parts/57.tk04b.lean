/-! ===== contracts: checks ===== -/
-- IceBoatsModel.knows
def yD343 : List YD := yD_343 :: yD342
theorem yk_343 : ychk yKD (yct yB yD342) xMT xFT xSTX xm220 yD_343.2.1 yD_343.2.2.1 6000 = true := by decide +kernel
theorem yc_343 : ychks yKD yB xMT xFT xSTX yD343 = true := ychks_cons (d := yD_343) (L := yD342) (M := xm220) rfl yk_343 yc_342
-- IceBoatsModel.allKnow
def yD344 : List YD := yD_344 :: yD343
theorem yk_344 : ychk yKD (yct yB yD343) xMT xFT xSTX xm224 yD_344.2.1 yD_344.2.2.1 6000 = true := by decide +kernel
theorem yc_344 : ychks yKD yB xMT xFT xSTX yD344 = true := ychks_cons (d := yD_344) (L := yD343) (M := xm224) rfl yk_344 yc_343
-- IceBoatsModel.letter
def yD345 : List YD := yD_345 :: yD344
theorem yk_345 : ychk yKD (yct yB yD344) xMT xFT xSTX xm227 yD_345.2.1 yD_345.2.2.1 6000 = true := by decide +kernel
theorem yc_345 : ychks yKD yB xMT xFT xSTX yD345 = true := ychks_cons (d := yD_345) (L := yD344) (M := xm227) rfl yk_345 yc_344
-- IceBoatsModel.reads
def yD346 : List YD := yD_346 :: yD345
theorem yk_346 : ychk yKD (yct yB yD345) xMT xFT xSTX xm226 yD_346.2.1 yD_346.2.2.1 6000 = true := by decide +kernel
theorem yc_346 : ychks yKD yB xMT xFT xSTX yD346 = true := ychks_cons (d := yD_346) (L := yD345) (M := xm226) rfl yk_346 yc_345
-- IceBoatsModel.fault
def yD347 : List YD := yD_347 :: yD346
theorem yk_347 : ychk yKD (yct yB yD346) xMT xFT xSTX xm225 yD_347.2.1 yD_347.2.2.1 6000 = true := by decide +kernel
theorem yc_347 : ychks yKD yB xMT xFT xSTX yD347 = true := ychks_cons (d := yD_347) (L := yD346) (M := xm225) rfl yk_347 yc_346
-- IceBoatsModel.rules
def yD348 : List YD := yD_348 :: yD347
theorem yk_348 : ychk yKD (yct yB yD347) xMT xFT xSTX xm228 yD_348.2.1 yD_348.2.2.1 6000 = true := by decide +kernel
theorem yc_348 : ychks yKD yB xMT xFT xSTX yD348 = true := ychks_cons (d := yD_348) (L := yD347) (M := xm228) rfl yk_348 yc_347
