/-! ===== contracts: checks ===== -/
-- IceBoats.plan
def yD149 : List YD := yD_149 :: yD148
theorem yk_149 : ychk yKD (yct yB yD148) xMT xFT xSTX xm116 yD_149.2.1 yD_149.2.2.1 6000 = true := by decide +kernel
theorem yc_149 : ychks yKD yB xMT xFT xSTX yD149 = true := ychks_cons (d := yD_149) (L := yD148) (M := xm116) rfl yk_149 yc_148
-- java/lang/Integer.bitCount
def yD150 : List YD := yD_150 :: yD149
theorem yk_150 : ychk yKD (yct yB yD149) xMT xFT xSTX xm117 yD_150.2.1 yD_150.2.2.1 6000 = true := by decide +kernel
theorem yc_150 : ychks yKD yB xMT xFT xSTX yD150 = true := ychks_cons (d := yD_150) (L := yD149) (M := xm117) rfl yk_150 yc_149
-- IceBoats.plan
def yD151 : List YD := yD_151 :: yD150
theorem yk_151 : ychk yKD (yct yB yD150) xMT xFT xSTX xm116 yD_151.2.1 yD_151.2.2.1 6000 = true := by decide +kernel
theorem yc_151 : ychks yKD yB xMT xFT xSTX yD151 = true := ychks_cons (d := yD_151) (L := yD150) (M := xm116) rfl yk_151 yc_150
-- java/lang/Integer.bitCount
def yD152 : List YD := yD_152 :: yD151
theorem yk_152 : ychk yKD (yct yB yD151) xMT xFT xSTX xm117 yD_152.2.1 yD_152.2.2.1 6000 = true := by decide +kernel
theorem yc_152 : ychks yKD yB xMT xFT xSTX yD152 = true := ychks_cons (d := yD_152) (L := yD151) (M := xm117) rfl yk_152 yc_151
-- IceBoats.plan
def yD153 : List YD := yD_153 :: yD152
theorem yk_153 : ychk yKD (yct yB yD152) xMT xFT xSTX xm116 yD_153.2.1 yD_153.2.2.1 6000 = true := by decide +kernel
theorem yc_153 : ychks yKD yB xMT xFT xSTX yD153 = true := ychks_cons (d := yD_153) (L := yD152) (M := xm116) rfl yk_153 yc_152
-- java/lang/Integer.bitCount
def yD154 : List YD := yD_154 :: yD153
theorem yk_154 : ychk yKD (yct yB yD153) xMT xFT xSTX xm117 yD_154.2.1 yD_154.2.2.1 6000 = true := by decide +kernel
theorem yc_154 : ychks yKD yB xMT xFT xSTX yD154 = true := ychks_cons (d := yD_154) (L := yD153) (M := xm117) rfl yk_154 yc_153
-- IceBoats.plan
def yD155 : List YD := yD_155 :: yD154
theorem yk_155 : ychk yKD (yct yB yD154) xMT xFT xSTX xm116 yD_155.2.1 yD_155.2.2.1 6000 = true := by decide +kernel
theorem yc_155 : ychks yKD yB xMT xFT xSTX yD155 = true := ychks_cons (d := yD_155) (L := yD154) (M := xm116) rfl yk_155 yc_154
-- java/lang/Integer.bitCount
def yD156 : List YD := yD_156 :: yD155
theorem yk_156 : ychk yKD (yct yB yD155) xMT xFT xSTX xm117 yD_156.2.1 yD_156.2.2.1 6000 = true := by decide +kernel
theorem yc_156 : ychks yKD yB xMT xFT xSTX yD156 = true := ychks_cons (d := yD_156) (L := yD155) (M := xm117) rfl yk_156 yc_155
-- IceBoats.plan
def yD157 : List YD := yD_157 :: yD156
theorem yk_157 : ychk yKD (yct yB yD156) xMT xFT xSTX xm116 yD_157.2.1 yD_157.2.2.1 6000 = true := by decide +kernel
theorem yc_157 : ychks yKD yB xMT xFT xSTX yD157 = true := ychks_cons (d := yD_157) (L := yD156) (M := xm116) rfl yk_157 yc_156
-- java/lang/Integer.bitCount
def yD158 : List YD := yD_158 :: yD157
theorem yk_158 : ychk yKD (yct yB yD157) xMT xFT xSTX xm117 yD_158.2.1 yD_158.2.2.1 6000 = true := by decide +kernel
theorem yc_158 : ychks yKD yB xMT xFT xSTX yD158 = true := ychks_cons (d := yD_158) (L := yD157) (M := xm117) rfl yk_158 yc_157
-- IceBoats.plan
def yD159 : List YD := yD_159 :: yD158
theorem yk_159 : ychk yKD (yct yB yD158) xMT xFT xSTX xm116 yD_159.2.1 yD_159.2.2.1 6000 = true := by decide +kernel
theorem yc_159 : ychks yKD yB xMT xFT xSTX yD159 = true := ychks_cons (d := yD_159) (L := yD158) (M := xm116) rfl yk_159 yc_158
-- java/lang/Integer.bitCount
def yD160 : List YD := yD_160 :: yD159
theorem yk_160 : ychk yKD (yct yB yD159) xMT xFT xSTX xm117 yD_160.2.1 yD_160.2.2.1 6000 = true := by decide +kernel
theorem yc_160 : ychks yKD yB xMT xFT xSTX yD160 = true := ychks_cons (d := yD_160) (L := yD159) (M := xm117) rfl yk_160 yc_159
