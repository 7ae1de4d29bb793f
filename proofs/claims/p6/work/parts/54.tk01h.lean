/-! ===== contracts: checks ===== -/
-- IceBoats.plan
def yD137 : List YD := yD_137 :: yD136
theorem yk_137 : ychk yKD (yct yB yD136) xMT xFT xSTX xm116 yD_137.2.1 yD_137.2.2.1 6000 = true := by decide +kernel
theorem yc_137 : ychks yKD yB xMT xFT xSTX yD137 = true := ychks_cons (d := yD_137) (L := yD136) (M := xm116) rfl yk_137 yc_136
-- java/lang/Integer.bitCount
def yD138 : List YD := yD_138 :: yD137
theorem yk_138 : ychk yKD (yct yB yD137) xMT xFT xSTX xm117 yD_138.2.1 yD_138.2.2.1 6000 = true := by decide +kernel
theorem yc_138 : ychks yKD yB xMT xFT xSTX yD138 = true := ychks_cons (d := yD_138) (L := yD137) (M := xm117) rfl yk_138 yc_137
-- IceBoats.plan
def yD139 : List YD := yD_139 :: yD138
theorem yk_139 : ychk yKD (yct yB yD138) xMT xFT xSTX xm116 yD_139.2.1 yD_139.2.2.1 6000 = true := by decide +kernel
theorem yc_139 : ychks yKD yB xMT xFT xSTX yD139 = true := ychks_cons (d := yD_139) (L := yD138) (M := xm116) rfl yk_139 yc_138
-- java/lang/Integer.bitCount
def yD140 : List YD := yD_140 :: yD139
theorem yk_140 : ychk yKD (yct yB yD139) xMT xFT xSTX xm117 yD_140.2.1 yD_140.2.2.1 6000 = true := by decide +kernel
theorem yc_140 : ychks yKD yB xMT xFT xSTX yD140 = true := ychks_cons (d := yD_140) (L := yD139) (M := xm117) rfl yk_140 yc_139
-- IceBoats.plan
def yD141 : List YD := yD_141 :: yD140
theorem yk_141 : ychk yKD (yct yB yD140) xMT xFT xSTX xm116 yD_141.2.1 yD_141.2.2.1 6000 = true := by decide +kernel
theorem yc_141 : ychks yKD yB xMT xFT xSTX yD141 = true := ychks_cons (d := yD_141) (L := yD140) (M := xm116) rfl yk_141 yc_140
-- java/lang/Integer.bitCount
def yD142 : List YD := yD_142 :: yD141
theorem yk_142 : ychk yKD (yct yB yD141) xMT xFT xSTX xm117 yD_142.2.1 yD_142.2.2.1 6000 = true := by decide +kernel
theorem yc_142 : ychks yKD yB xMT xFT xSTX yD142 = true := ychks_cons (d := yD_142) (L := yD141) (M := xm117) rfl yk_142 yc_141
-- IceBoats.plan
def yD143 : List YD := yD_143 :: yD142
theorem yk_143 : ychk yKD (yct yB yD142) xMT xFT xSTX xm116 yD_143.2.1 yD_143.2.2.1 6000 = true := by decide +kernel
theorem yc_143 : ychks yKD yB xMT xFT xSTX yD143 = true := ychks_cons (d := yD_143) (L := yD142) (M := xm116) rfl yk_143 yc_142
-- java/lang/Integer.bitCount
def yD144 : List YD := yD_144 :: yD143
theorem yk_144 : ychk yKD (yct yB yD143) xMT xFT xSTX xm117 yD_144.2.1 yD_144.2.2.1 6000 = true := by decide +kernel
theorem yc_144 : ychks yKD yB xMT xFT xSTX yD144 = true := ychks_cons (d := yD_144) (L := yD143) (M := xm117) rfl yk_144 yc_143
-- IceBoats.plan
def yD145 : List YD := yD_145 :: yD144
theorem yk_145 : ychk yKD (yct yB yD144) xMT xFT xSTX xm116 yD_145.2.1 yD_145.2.2.1 6000 = true := by decide +kernel
theorem yc_145 : ychks yKD yB xMT xFT xSTX yD145 = true := ychks_cons (d := yD_145) (L := yD144) (M := xm116) rfl yk_145 yc_144
-- java/lang/Integer.bitCount
def yD146 : List YD := yD_146 :: yD145
theorem yk_146 : ychk yKD (yct yB yD145) xMT xFT xSTX xm117 yD_146.2.1 yD_146.2.2.1 6000 = true := by decide +kernel
theorem yc_146 : ychks yKD yB xMT xFT xSTX yD146 = true := ychks_cons (d := yD_146) (L := yD145) (M := xm117) rfl yk_146 yc_145
-- IceBoats.plan
def yD147 : List YD := yD_147 :: yD146
theorem yk_147 : ychk yKD (yct yB yD146) xMT xFT xSTX xm116 yD_147.2.1 yD_147.2.2.1 6000 = true := by decide +kernel
theorem yc_147 : ychks yKD yB xMT xFT xSTX yD147 = true := ychks_cons (d := yD_147) (L := yD146) (M := xm116) rfl yk_147 yc_146
-- java/lang/Integer.bitCount
def yD148 : List YD := yD_148 :: yD147
theorem yk_148 : ychk yKD (yct yB yD147) xMT xFT xSTX xm117 yD_148.2.1 yD_148.2.2.1 6000 = true := by decide +kernel
theorem yc_148 : ychks yKD yB xMT xFT xSTX yD148 = true := ychks_cons (d := yD_148) (L := yD147) (M := xm117) rfl yk_148 yc_147
