/-! ===== contracts: checks ===== -/
-- IceBoats.shifts
def yD103 : List YD := yD_103 :: yD102
theorem yk_103 : ychk yKD (yct yB yD102) xMT xFT xSTX xm112 yD_103.2.1 yD_103.2.2.1 6000 = true := by decide +kernel
theorem yc_103 : ychks yKD yB xMT xFT xSTX yD103 = true := ychks_cons (d := yD_103) (L := yD102) (M := xm112) rfl yk_103 yc_102
-- IceBoats.mapped
def yD104 : List YD := yD_104 :: yD103
theorem yk_104 : ychk yKD (yct yB yD103) xMT xFT xSTX xm115 yD_104.2.1 yD_104.2.2.1 6000 = true := by decide +kernel
theorem yc_104 : ychks yKD yB xMT xFT xSTX yD104 = true := ychks_cons (d := yD_104) (L := yD103) (M := xm115) rfl yk_104 yc_103
-- java/lang/Integer.bitCount
def yD105 : List YD := yD_105 :: yD104
theorem yk_105 : ychk yKD (yct yB yD104) xMT xFT xSTX xm117 yD_105.2.1 yD_105.2.2.1 6000 = true := by decide +kernel
theorem yc_105 : ychks yKD yB xMT xFT xSTX yD105 = true := ychks_cons (d := yD_105) (L := yD104) (M := xm117) rfl yk_105 yc_104
-- IceBoats.areWays
def yD106 : List YD := yD_106 :: yD105
theorem yk_106 : ychk yKD (yct yB yD105) xMT xFT xSTX xm120 yD_106.2.1 yD_106.2.2.1 6000 = true := by decide +kernel
theorem yc_106 : ychks yKD yB xMT xFT xSTX yD106 = true := ychks_cons (d := yD_106) (L := yD105) (M := xm120) rfl yk_106 yc_105
-- IceBoats.faultOfWays
def yD107 : List YD := yD_107 :: yD106
theorem yk_107 : ychk yKD (yct yB yD106) xMT xFT xSTX xm119 yD_107.2.1 yD_107.2.2.1 6000 = true := by decide +kernel
theorem yc_107 : ychks yKD yB xMT xFT xSTX yD107 = true := ychks_cons (d := yD_107) (L := yD106) (M := xm119) rfl yk_107 yc_106
-- IceBoats.faultOfPlanRows
def yD108 : List YD := yD_108 :: yD107
theorem yk_108 : ychk yKD (yct yB yD107) xMT xFT xSTX xm118 yD_108.2.1 yD_108.2.2.1 6000 = true := by decide +kernel
theorem yc_108 : ychks yKD yB xMT xFT xSTX yD108 = true := ychks_cons (d := yD_108) (L := yD107) (M := xm118) rfl yk_108 yc_107
-- IceBoats$Planner.forget
def yD109 : List YD := yD_109 :: yD108
theorem yk_109 : ychk yKD (yct yB yD108) xMT xFT xSTX xm121 yD_109.2.1 yD_109.2.2.1 6000 = true := by decide +kernel
theorem yc_109 : ychks yKD yB xMT xFT xSTX yD109 = true := ychks_cons (d := yD_109) (L := yD108) (M := xm121) rfl yk_109 yc_108
