/-! ===== contracts: checks ===== -/
-- IceBoats.allKnow
def yD91 : List YD := yD_91 :: yD90
theorem yk_91 : ychk yKD (yct yB yD90) xMT xFT xSTX xm100 yD_91.2.1 yD_91.2.2.1 6000 = true := by decide +kernel
theorem yc_91 : ychks yKD yB xMT xFT xSTX yD91 = true := ychks_cons (d := yD_91) (L := yD90) (M := xm100) rfl yk_91 yc_90
-- IceBoats$RuleReader.letterOf
def yD92 : List YD := yD_92 :: yD91
theorem yk_92 : ychk yKD (yct yB yD91) xMT xFT xSTX xm105 yD_92.2.1 yD_92.2.2.1 6000 = true := by decide +kernel
theorem yc_92 : ychks yKD yB xMT xFT xSTX yD92 = true := ychks_cons (d := yD_92) (L := yD91) (M := xm105) rfl yk_92 yc_91
-- IceBoats$RuleReader.endOfDigits
def yD93 : List YD := yD_93 :: yD92
theorem yk_93 : ychk yKD (yct yB yD92) xMT xFT xSTX xm106 yD_93.2.1 yD_93.2.2.1 6000 = true := by decide +kernel
theorem yc_93 : ychks yKD yB xMT xFT xSTX yD93 = true := ychks_cons (d := yD_93) (L := yD92) (M := xm106) rfl yk_93 yc_92
-- IceBoats$RuleReader.numberIn
def yD94 : List YD := yD_94 :: yD93
theorem yk_94 : ychk yKD (yct yB yD93) xMT xFT xSTX xm107 yD_94.2.1 yD_94.2.2.1 6000 = true := by decide +kernel
theorem yc_94 : ychks yKD yB xMT xFT xSTX yD94 = true := ychks_cons (d := yD_94) (L := yD93) (M := xm107) rfl yk_94 yc_93
-- IceBoats$RuleReader.readRules
def yD95 : List YD := yD_95 :: yD94
theorem yk_95 : ychk yKD (yct yB yD94) xMT xFT xSTX xm104 yD_95.2.1 yD_95.2.2.1 6000 = true := by decide +kernel
theorem yc_95 : ychks yKD yB xMT xFT xSTX yD95 = true := ychks_cons (d := yD_95) (L := yD94) (M := xm104) rfl yk_95 yc_94
-- IceBoats.fault
def yD96 : List YD := yD_96 :: yD95
theorem yk_96 : ychk yKD (yct yB yD95) xMT xFT xSTX xm103 yD_96.2.1 yD_96.2.2.1 6000 = true := by decide +kernel
theorem yc_96 : ychks yKD yB xMT xFT xSTX yD96 = true := ychks_cons (d := yD_96) (L := yD95) (M := xm103) rfl yk_96 yc_95
