/-! ===== contracts: checks ===== -/
-- IceBoatsModel.many
def yD481 : List YD := yD_481 :: yD480
theorem yk_481 : ychk yKD (yct yB yD480) xMT xFT xSTX xm191 yD_481.2.1 yD_481.2.2.1 6000 = true := by decide +kernel
theorem yc_481 : ychks yKD yB xMT xFT xSTX yD481 = true := ychks_cons (d := yD_481) (L := yD480) (M := xm191) rfl yk_481 yc_480
-- IceBoatsModel.plan
def yD482 : List YD := yD_482 :: yD481
theorem yk_482 : ychk yKD (yct yB yD481) xMT xFT xSTX xm235 yD_482.2.1 yD_482.2.2.1 6000 = true := by decide +kernel
theorem yc_482 : ychks yKD yB xMT xFT xSTX yD482 = true := ychks_cons (d := yD_482) (L := yD481) (M := xm235) rfl yk_482 yc_481
-- IceBoatsModel.many
def yD483 : List YD := yD_483 :: yD482
theorem yk_483 : ychk yKD (yct yB yD482) xMT xFT xSTX xm191 yD_483.2.1 yD_483.2.2.1 6000 = true := by decide +kernel
theorem yc_483 : ychks yKD yB xMT xFT xSTX yD483 = true := ychks_cons (d := yD_483) (L := yD482) (M := xm191) rfl yk_483 yc_482
-- IceBoatsModel.plan
def yD484 : List YD := yD_484 :: yD483
theorem yk_484 : ychk yKD (yct yB yD483) xMT xFT xSTX xm235 yD_484.2.1 yD_484.2.2.1 6000 = true := by decide +kernel
theorem yc_484 : ychks yKD yB xMT xFT xSTX yD484 = true := ychks_cons (d := yD_484) (L := yD483) (M := xm235) rfl yk_484 yc_483
-- IceBoatsModel.plan
def yD485 : List YD := yD_485 :: yD484
theorem yk_485 : ychk yKD (yct yB yD484) xMT xFT xSTX xm235 yD_485.2.1 yD_485.2.2.1 6000 = true := by decide +kernel
theorem yc_485 : ychks yKD yB xMT xFT xSTX yD485 = true := ychks_cons (d := yD_485) (L := yD484) (M := xm235) rfl yk_485 yc_484
-- IceBoatsModel.plan
def yD486 : List YD := yD_486 :: yD485
theorem yk_486 : ychk yKD (yct yB yD485) xMT xFT xSTX xm235 yD_486.2.1 yD_486.2.2.1 6000 = true := by decide +kernel
theorem yc_486 : ychks yKD yB xMT xFT xSTX yD486 = true := ychks_cons (d := yD_486) (L := yD485) (M := xm235) rfl yk_486 yc_485
