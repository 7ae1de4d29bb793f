/-! ===== contracts: checks ===== -/
-- IceBoatsModel.rule
def yD349 : List YD := yD_349 :: yD348
theorem yk_349 : ychk yKD (yct yB yD348) xMT xFT xSTX xm229 yD_349.2.1 yD_349.2.2.1 6000 = true := by decide +kernel
theorem yc_349 : ychks yKD yB xMT xFT xSTX yD349 = true := ychks_cons (d := yD_349) (L := yD348) (M := xm229) rfl yk_349 yc_348
-- IceBoatsModel.asks
def yD350 : List YD := yD_350 :: yD349
theorem yk_350 : ychk yKD (yct yB yD349) xMT xFT xSTX xm230 yD_350.2.1 yD_350.2.2.1 6000 = true := by decide +kernel
theorem yc_350 : ychks yKD yB xMT xFT xSTX yD350 = true := ychks_cons (d := yD_350) (L := yD349) (M := xm230) rfl yk_350 yc_349
-- IceBoatsModel.isMap
def yD351 : List YD := yD_351 :: yD350
theorem yk_351 : ychk yKD (yct yB yD350) xMT xFT xSTX xm232 yD_351.2.1 yD_351.2.2.1 6000 = true := by decide +kernel
theorem yc_351 : ychks yKD yB xMT xFT xSTX yD351 = true := ychks_cons (d := yD_351) (L := yD350) (M := xm232) rfl yk_351 yc_350
-- IceBoatsModel.agrees
def yD352 : List YD := yD_352 :: yD351
theorem yk_352 : ychk yKD (yct yB yD351) xMT xFT xSTX xm233 yD_352.2.1 yD_352.2.2.1 6000 = true := by decide +kernel
theorem yc_352 : ychks yKD yB xMT xFT xSTX yD352 = true := ychks_cons (d := yD_352) (L := yD351) (M := xm233) rfl yk_352 yc_351
-- IceBoatsModel.shifts
def yD353 : List YD := yD_353 :: yD352
theorem yk_353 : ychk yKD (yct yB yD352) xMT xFT xSTX xm231 yD_353.2.1 yD_353.2.2.1 6000 = true := by decide +kernel
theorem yc_353 : ychks yKD yB xMT xFT xSTX yD353 = true := ychks_cons (d := yD_353) (L := yD352) (M := xm231) rfl yk_353 yc_352
-- IceBoatsModel.many
def yD354 : List YD := yD_354 :: yD353
theorem yk_354 : ychk yKD (yct yB yD353) xMT xFT xSTX xm191 yD_354.2.1 yD_354.2.2.1 6000 = true := by decide +kernel
theorem yc_354 : ychks yKD yB xMT xFT xSTX yD354 = true := ychks_cons (d := yD_354) (L := yD353) (M := xm191) rfl yk_354 yc_353
