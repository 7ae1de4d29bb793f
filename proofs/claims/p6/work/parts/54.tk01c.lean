/-! ===== contracts: checks ===== -/
-- IceBoats.rules
def yD97 : List YD := yD_97 :: yD96
theorem yk_97 : ychk yKD (yct yB yD96) xMT xFT xSTX xm108 yD_97.2.1 yD_97.2.2.1 6000 = true := by decide +kernel
theorem yc_97 : ychks yKD yB xMT xFT xSTX yD97 = true := ychks_cons (d := yD_97) (L := yD96) (M := xm108) rfl yk_97 yc_96
-- IceBoats.rule
def yD98 : List YD := yD_98 :: yD97
theorem yk_98 : ychk yKD (yct yB yD97) xMT xFT xSTX xm109 yD_98.2.1 yD_98.2.2.1 6000 = true := by decide +kernel
theorem yc_98 : ychks yKD yB xMT xFT xSTX yD98 = true := ychks_cons (d := yD_98) (L := yD97) (M := xm109) rfl yk_98 yc_97
-- IceBoats.isDueNow
def yD99 : List YD := yD_99 :: yD98
theorem yk_99 : ychk yKD (yct yB yD98) xMT xFT xSTX xm111 yD_99.2.1 yD_99.2.2.1 6000 = true := by decide +kernel
theorem yc_99 : ychks yKD yB xMT xFT xSTX yD99 = true := ychks_cons (d := yD_99) (L := yD98) (M := xm111) rfl yk_99 yc_98
-- IceBoats.asks
def yD100 : List YD := yD_100 :: yD99
theorem yk_100 : ychk yKD (yct yB yD99) xMT xFT xSTX xm110 yD_100.2.1 yD_100.2.2.1 6000 = true := by decide +kernel
theorem yc_100 : ychks yKD yB xMT xFT xSTX yD100 = true := ychks_cons (d := yD_100) (L := yD99) (M := xm110) rfl yk_100 yc_99
-- IceBoats.isMap
def yD101 : List YD := yD_101 :: yD100
theorem yk_101 : ychk yKD (yct yB yD100) xMT xFT xSTX xm113 yD_101.2.1 yD_101.2.2.1 6000 = true := by decide +kernel
theorem yc_101 : ychks yKD yB xMT xFT xSTX yD101 = true := ychks_cons (d := yD_101) (L := yD100) (M := xm113) rfl yk_101 yc_100
-- IceBoats.alikePlaces
def yD102 : List YD := yD_102 :: yD101
theorem yk_102 : ychk yKD (yct yB yD101) xMT xFT xSTX xm114 yD_102.2.1 yD_102.2.2.1 6000 = true := by decide +kernel
theorem yc_102 : ychks yKD yB xMT xFT xSTX yD102 = true := ychks_cons (d := yD_102) (L := yD101) (M := xm114) rfl yk_102 yc_101
