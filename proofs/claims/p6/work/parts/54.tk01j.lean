/-! ===== contracts: checks ===== -/
-- IceBoats.plan
def yD161 : List YD := yD_161 :: yD160
theorem yk_161 : ychk yKD (yct yB yD160) xMT xFT xSTX xm116 yD_161.2.1 yD_161.2.2.1 6000 = true := by decide +kernel
theorem yc_161 : ychks yKD yB xMT xFT xSTX yD161 = true := ychks_cons (d := yD_161) (L := yD160) (M := xm116) rfl yk_161 yc_160
-- java/lang/Integer.bitCount
def yD162 : List YD := yD_162 :: yD161
theorem yk_162 : ychk yKD (yct yB yD161) xMT xFT xSTX xm117 yD_162.2.1 yD_162.2.2.1 6000 = true := by decide +kernel
theorem yc_162 : ychks yKD yB xMT xFT xSTX yD162 = true := ychks_cons (d := yD_162) (L := yD161) (M := xm117) rfl yk_162 yc_161
-- IceBoats.plan
def yD163 : List YD := yD_163 :: yD162
theorem yk_163 : ychk yKD (yct yB yD162) xMT xFT xSTX xm116 yD_163.2.1 yD_163.2.2.1 6000 = true := by decide +kernel
theorem yc_163 : ychks yKD yB xMT xFT xSTX yD163 = true := ychks_cons (d := yD_163) (L := yD162) (M := xm116) rfl yk_163 yc_162
-- java/lang/Integer.bitCount
def yD164 : List YD := yD_164 :: yD163
theorem yk_164 : ychk yKD (yct yB yD163) xMT xFT xSTX xm117 yD_164.2.1 yD_164.2.2.1 6000 = true := by decide +kernel
theorem yc_164 : ychks yKD yB xMT xFT xSTX yD164 = true := ychks_cons (d := yD_164) (L := yD163) (M := xm117) rfl yk_164 yc_163
-- IceBoats.plan
def yD165 : List YD := yD_165 :: yD164
theorem yk_165 : ychk yKD (yct yB yD164) xMT xFT xSTX xm116 yD_165.2.1 yD_165.2.2.1 6000 = true := by decide +kernel
theorem yc_165 : ychks yKD yB xMT xFT xSTX yD165 = true := ychks_cons (d := yD_165) (L := yD164) (M := xm116) rfl yk_165 yc_164
-- java/lang/Integer.bitCount
def yD166 : List YD := yD_166 :: yD165
theorem yk_166 : ychk yKD (yct yB yD165) xMT xFT xSTX xm117 yD_166.2.1 yD_166.2.2.1 6000 = true := by decide +kernel
theorem yc_166 : ychks yKD yB xMT xFT xSTX yD166 = true := ychks_cons (d := yD_166) (L := yD165) (M := xm117) rfl yk_166 yc_165
-- IceBoats.plan
def yD167 : List YD := yD_167 :: yD166
theorem yk_167 : ychk yKD (yct yB yD166) xMT xFT xSTX xm116 yD_167.2.1 yD_167.2.2.1 6000 = true := by decide +kernel
theorem yc_167 : ychks yKD yB xMT xFT xSTX yD167 = true := ychks_cons (d := yD_167) (L := yD166) (M := xm116) rfl yk_167 yc_166
-- java/lang/Integer.bitCount
def yD168 : List YD := yD_168 :: yD167
theorem yk_168 : ychk yKD (yct yB yD167) xMT xFT xSTX xm117 yD_168.2.1 yD_168.2.2.1 6000 = true := by decide +kernel
theorem yc_168 : ychks yKD yB xMT xFT xSTX yD168 = true := ychks_cons (d := yD_168) (L := yD167) (M := xm117) rfl yk_168 yc_167
