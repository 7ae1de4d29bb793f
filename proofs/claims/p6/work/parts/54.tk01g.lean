/-! ===== contracts: checks ===== -/
-- IceBoats.plan
def yD125 : List YD := yD_125 :: yD124
theorem yk_125 : ychk yKD (yct yB yD124) xMT xFT xSTX xm116 yD_125.2.1 yD_125.2.2.1 6000 = true := by decide +kernel
theorem yc_125 : ychks yKD yB xMT xFT xSTX yD125 = true := ychks_cons (d := yD_125) (L := yD124) (M := xm116) rfl yk_125 yc_124
-- java/lang/Integer.bitCount
def yD126 : List YD := yD_126 :: yD125
theorem yk_126 : ychk yKD (yct yB yD125) xMT xFT xSTX xm117 yD_126.2.1 yD_126.2.2.1 6000 = true := by decide +kernel
theorem yc_126 : ychks yKD yB xMT xFT xSTX yD126 = true := ychks_cons (d := yD_126) (L := yD125) (M := xm117) rfl yk_126 yc_125
-- IceBoats.plan
def yD127 : List YD := yD_127 :: yD126
theorem yk_127 : ychk yKD (yct yB yD126) xMT xFT xSTX xm116 yD_127.2.1 yD_127.2.2.1 6000 = true := by decide +kernel
theorem yc_127 : ychks yKD yB xMT xFT xSTX yD127 = true := ychks_cons (d := yD_127) (L := yD126) (M := xm116) rfl yk_127 yc_126
-- java/lang/Integer.bitCount
def yD128 : List YD := yD_128 :: yD127
theorem yk_128 : ychk yKD (yct yB yD127) xMT xFT xSTX xm117 yD_128.2.1 yD_128.2.2.1 6000 = true := by decide +kernel
theorem yc_128 : ychks yKD yB xMT xFT xSTX yD128 = true := ychks_cons (d := yD_128) (L := yD127) (M := xm117) rfl yk_128 yc_127
-- IceBoats.plan
def yD129 : List YD := yD_129 :: yD128
theorem yk_129 : ychk yKD (yct yB yD128) xMT xFT xSTX xm116 yD_129.2.1 yD_129.2.2.1 6000 = true := by decide +kernel
theorem yc_129 : ychks yKD yB xMT xFT xSTX yD129 = true := ychks_cons (d := yD_129) (L := yD128) (M := xm116) rfl yk_129 yc_128
-- java/lang/Integer.bitCount
def yD130 : List YD := yD_130 :: yD129
theorem yk_130 : ychk yKD (yct yB yD129) xMT xFT xSTX xm117 yD_130.2.1 yD_130.2.2.1 6000 = true := by decide +kernel
theorem yc_130 : ychks yKD yB xMT xFT xSTX yD130 = true := ychks_cons (d := yD_130) (L := yD129) (M := xm117) rfl yk_130 yc_129
-- IceBoats.plan
def yD131 : List YD := yD_131 :: yD130
theorem yk_131 : ychk yKD (yct yB yD130) xMT xFT xSTX xm116 yD_131.2.1 yD_131.2.2.1 6000 = true := by decide +kernel
theorem yc_131 : ychks yKD yB xMT xFT xSTX yD131 = true := ychks_cons (d := yD_131) (L := yD130) (M := xm116) rfl yk_131 yc_130
-- java/lang/Integer.bitCount
def yD132 : List YD := yD_132 :: yD131
theorem yk_132 : ychk yKD (yct yB yD131) xMT xFT xSTX xm117 yD_132.2.1 yD_132.2.2.1 6000 = true := by decide +kernel
theorem yc_132 : ychks yKD yB xMT xFT xSTX yD132 = true := ychks_cons (d := yD_132) (L := yD131) (M := xm117) rfl yk_132 yc_131
-- IceBoats.plan
def yD133 : List YD := yD_133 :: yD132
theorem yk_133 : ychk yKD (yct yB yD132) xMT xFT xSTX xm116 yD_133.2.1 yD_133.2.2.1 6000 = true := by decide +kernel
theorem yc_133 : ychks yKD yB xMT xFT xSTX yD133 = true := ychks_cons (d := yD_133) (L := yD132) (M := xm116) rfl yk_133 yc_132
-- java/lang/Integer.bitCount
def yD134 : List YD := yD_134 :: yD133
theorem yk_134 : ychk yKD (yct yB yD133) xMT xFT xSTX xm117 yD_134.2.1 yD_134.2.2.1 6000 = true := by decide +kernel
theorem yc_134 : ychks yKD yB xMT xFT xSTX yD134 = true := ychks_cons (d := yD_134) (L := yD133) (M := xm117) rfl yk_134 yc_133
-- IceBoats.plan
def yD135 : List YD := yD_135 :: yD134
theorem yk_135 : ychk yKD (yct yB yD134) xMT xFT xSTX xm116 yD_135.2.1 yD_135.2.2.1 6000 = true := by decide +kernel
theorem yc_135 : ychks yKD yB xMT xFT xSTX yD135 = true := ychks_cons (d := yD_135) (L := yD134) (M := xm116) rfl yk_135 yc_134
-- java/lang/Integer.bitCount
def yD136 : List YD := yD_136 :: yD135
theorem yk_136 : ychk yKD (yct yB yD135) xMT xFT xSTX xm117 yD_136.2.1 yD_136.2.2.1 6000 = true := by decide +kernel
theorem yc_136 : ychks yKD yB xMT xFT xSTX yD136 = true := ychks_cons (d := yD_136) (L := yD135) (M := xm117) rfl yk_136 yc_135
