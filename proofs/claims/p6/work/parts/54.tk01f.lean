/-! ===== contracts: checks ===== -/
-- IceBoats.plan
def yD116 : List YD := yD_116 :: yD115
theorem yk_116 : ychk yKD (yct yB yD115) xMT xFT xSTX xm116 yD_116.2.1 yD_116.2.2.1 6000 = true := by decide +kernel
theorem yc_116 : ychks yKD yB xMT xFT xSTX yD116 = true := ychks_cons (d := yD_116) (L := yD115) (M := xm116) rfl yk_116 yc_115
-- java/lang/Integer.bitCount
def yD117 : List YD := yD_117 :: yD116
theorem yk_117 : ychk yKD (yct yB yD116) xMT xFT xSTX xm117 yD_117.2.1 yD_117.2.2.1 6000 = true := by decide +kernel
theorem yc_117 : ychks yKD yB xMT xFT xSTX yD117 = true := ychks_cons (d := yD_117) (L := yD116) (M := xm117) rfl yk_117 yc_116
-- IceBoats.offerRows
def yD118 : List YD := yD_118 :: yD117
theorem yk_118 : ychk yKD (yct yB yD117) xMT xFT xSTX xm122 yD_118.2.1 yD_118.2.2.1 6000 = true := by decide +kernel
theorem yc_118 : ychks yKD yB xMT xFT xSTX yD118 = true := ychks_cons (d := yD_118) (L := yD117) (M := xm122) rfl yk_118 yc_117
-- IceBoats.plan
def yD119 : List YD := yD_119 :: yD118
theorem yk_119 : ychk yKD (yct yB yD118) xMT xFT xSTX xm116 yD_119.2.1 yD_119.2.2.1 6000 = true := by decide +kernel
theorem yc_119 : ychks yKD yB xMT xFT xSTX yD119 = true := ychks_cons (d := yD_119) (L := yD118) (M := xm116) rfl yk_119 yc_118
-- java/lang/Integer.bitCount
def yD120 : List YD := yD_120 :: yD119
theorem yk_120 : ychk yKD (yct yB yD119) xMT xFT xSTX xm117 yD_120.2.1 yD_120.2.2.1 6000 = true := by decide +kernel
theorem yc_120 : ychks yKD yB xMT xFT xSTX yD120 = true := ychks_cons (d := yD_120) (L := yD119) (M := xm117) rfl yk_120 yc_119
-- IceBoats$Planner.offer
def yD121 : List YD := yD_121 :: yD120
theorem yk_121 : ychk yKD (yct yB yD120) xMT xFT xSTX xm125 yD_121.2.1 yD_121.2.2.1 6000 = true := by decide +kernel
theorem yc_121 : ychks yKD yB xMT xFT xSTX yD121 = true := ychks_cons (d := yD_121) (L := yD120) (M := xm125) rfl yk_121 yc_120
-- IceBoats.offerRows
def yD122 : List YD := yD_122 :: yD121
theorem yk_122 : ychk yKD (yct yB yD121) xMT xFT xSTX xm122 yD_122.2.1 yD_122.2.2.1 6000 = true := by decide +kernel
theorem yc_122 : ychks yKD yB xMT xFT xSTX yD122 = true := ychks_cons (d := yD_122) (L := yD121) (M := xm122) rfl yk_122 yc_121
-- IceBoats.plan
def yD123 : List YD := yD_123 :: yD122
theorem yk_123 : ychk yKD (yct yB yD122) xMT xFT xSTX xm116 yD_123.2.1 yD_123.2.2.1 6000 = true := by decide +kernel
theorem yc_123 : ychks yKD yB xMT xFT xSTX yD123 = true := ychks_cons (d := yD_123) (L := yD122) (M := xm116) rfl yk_123 yc_122
-- java/lang/Integer.bitCount
def yD124 : List YD := yD_124 :: yD123
theorem yk_124 : ychk yKD (yct yB yD123) xMT xFT xSTX xm117 yD_124.2.1 yD_124.2.2.1 6000 = true := by decide +kernel
theorem yc_124 : ychks yKD yB xMT xFT xSTX yD124 = true := ychks_cons (d := yD_124) (L := yD123) (M := xm117) rfl yk_124 yc_123
