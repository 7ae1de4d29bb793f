/-! ===== contracts: checks ===== -/
-- IceBoatsModel.heard
def yD337 : List YD := yD_337 :: yD336
theorem yk_337 : ychk yKD (yct yB yD336) xMT xFT xSTX xm219 yD_337.2.1 yD_337.2.2.1 6000 = true := by decide +kernel
theorem yc_337 : ychks yKD yB xMT xFT xSTX yD337 = true := ychks_cons (d := yD_337) (L := yD336) (M := xm219) rfl yk_337 yc_336
-- IceBoatsModel.knowsAt
def yD338 : List YD := yD_338 :: yD337
theorem yk_338 : ychk yKD (yct yB yD337) xMT xFT xSTX xm222 yD_338.2.1 yD_338.2.2.1 6000 = true := by decide +kernel
theorem yc_338 : ychks yKD yB xMT xFT xSTX yD338 = true := ychks_cons (d := yD_338) (L := yD337) (M := xm222) rfl yk_338 yc_337
-- IceBoatsModel.learns
def yD339 : List YD := yD_339 :: yD338
theorem yk_339 : ychk yKD (yct yB yD338) xMT xFT xSTX xm223 yD_339.2.1 yD_339.2.2.1 6000 = true := by decide +kernel
theorem yc_339 : ychks yKD yB xMT xFT xSTX yD339 = true := ychks_cons (d := yD_339) (L := yD338) (M := xm223) rfl yk_339 yc_338
-- IceBoatsModel.knowsOf
def yD340 : List YD := yD_340 :: yD339
theorem yk_340 : ychk yKD (yct yB yD339) xMT xFT xSTX xm221 yD_340.2.1 yD_340.2.2.1 6000 = true := by decide +kernel
theorem yc_340 : ychks yKD yB xMT xFT xSTX yD340 = true := ychks_cons (d := yD_340) (L := yD339) (M := xm221) rfl yk_340 yc_339
-- IceBoatsModel.knowsOf
def yD341 : List YD := yD_341 :: yD340
theorem yk_341 : ychk yKD (yct yB yD340) xMT xFT xSTX xm221 yD_341.2.1 yD_341.2.2.1 6000 = true := by decide +kernel
theorem yc_341 : ychks yKD yB xMT xFT xSTX yD341 = true := ychks_cons (d := yD_341) (L := yD340) (M := xm221) rfl yk_341 yc_340
-- IceBoatsModel.knowsOf
def yD342 : List YD := yD_342 :: yD341
theorem yk_342 : ychk yKD (yct yB yD341) xMT xFT xSTX xm221 yD_342.2.1 yD_342.2.2.1 6000 = true := by decide +kernel
theorem yc_342 : ychks yKD yB xMT xFT xSTX yD342 = true := ychks_cons (d := yD_342) (L := yD341) (M := xm221) rfl yk_342 yc_341
