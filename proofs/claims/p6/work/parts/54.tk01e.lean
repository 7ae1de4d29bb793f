/-! ===== contracts: checks ===== -/
-- IceBoats.powerFor
def yD110 : List YD := yD_110 :: yD109
theorem yk_110 : ychk yKD (yct yB yD109) xMT xFT xSTX xm123 yD_110.2.1 yD_110.2.2.1 6000 = true := by decide +kernel
theorem yc_110 : ychks yKD yB xMT xFT xSTX yD110 = true := ychks_cons (d := yD_110) (L := yD109) (M := xm123) rfl yk_110 yc_109
-- IceBoats$Sea.cellsOnTheWay
def yD111 : List YD := yD_111 :: yD110
theorem yk_111 : ychk yKD (yct yB yD110) xMT xFT xSTX xm124 yD_111.2.1 yD_111.2.2.1 6000 = true := by decide +kernel
theorem yc_111 : ychks yKD yB xMT xFT xSTX yD111 = true := ychks_cons (d := yD_111) (L := yD110) (M := xm124) rfl yk_111 yc_110
-- IceBoats$Planner.offer
def yD112 : List YD := yD_112 :: yD111
theorem yk_112 : ychk yKD (yct yB yD111) xMT xFT xSTX xm125 yD_112.2.1 yD_112.2.2.1 6000 = true := by decide +kernel
theorem yc_112 : ychks yKD yB xMT xFT xSTX yD112 = true := ychks_cons (d := yD_112) (L := yD111) (M := xm125) rfl yk_112 yc_111
-- IceBoats.offerRows
def yD113 : List YD := yD_113 :: yD112
theorem yk_113 : ychk yKD (yct yB yD112) xMT xFT xSTX xm122 yD_113.2.1 yD_113.2.2.1 6000 = true := by decide +kernel
theorem yc_113 : ychks yKD yB xMT xFT xSTX yD113 = true := ychks_cons (d := yD_113) (L := yD112) (M := xm122) rfl yk_113 yc_112
-- IceBoats$Planner.weigh
def yD114 : List YD := yD_114 :: yD113
theorem yk_114 : ychk yKD (yct yB yD113) xMT xFT xSTX xm127 yD_114.2.1 yD_114.2.2.1 6000 = true := by decide +kernel
theorem yc_114 : ychks yKD yB xMT xFT xSTX yD114 = true := ychks_cons (d := yD_114) (L := yD113) (M := xm127) rfl yk_114 yc_113
-- IceBoats$Planner.choose
def yD115 : List YD := yD_115 :: yD114
theorem yk_115 : ychk yKD (yct yB yD114) xMT xFT xSTX xm126 yD_115.2.1 yD_115.2.2.1 6000 = true := by decide +kernel
theorem yc_115 : ychks yKD yB xMT xFT xSTX yD115 = true := ychks_cons (d := yD_115) (L := yD114) (M := xm126) rfl yk_115 yc_114
