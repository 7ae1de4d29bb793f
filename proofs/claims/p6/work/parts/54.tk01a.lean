/-! ===== contracts: checks ===== -/
-- IceBoats.firstHeardFrom
def yD85 : List YD := yD_85 :: yD84
theorem yk_85 : ychk yKD (yct yB yD84) xMT xFT xSTX xm98 yD_85.2.1 yD_85.2.2.1 6000 = true := by decide +kernel
theorem yc_85 : ychks yKD yB xMT xFT xSTX yD85 = true := ychks_cons (d := yD_85) (L := yD84) (M := xm98) rfl yk_85 yc_84
-- IceBoats.knownOf
def yD86 : List YD := yD_86 :: yD85
theorem yk_86 : ychk yKD (yct yB yD85) xMT xFT xSTX xm97 yD_86.2.1 yD_86.2.2.1 6000 = true := by decide +kernel
theorem yc_86 : ychks yKD yB xMT xFT xSTX yD86 = true := ychks_cons (d := yD_86) (L := yD85) (M := xm97) rfl yk_86 yc_85
-- IceBoats.knownOfKnown
def yD87 : List YD := yD_87 :: yD86
theorem yk_87 : ychk yKD (yct yB yD86) xMT xFT xSTX xm99 yD_87.2.1 yD_87.2.2.1 6000 = true := by decide +kernel
theorem yc_87 : ychks yKD yB xMT xFT xSTX yD87 = true := ychks_cons (d := yD_87) (L := yD86) (M := xm99) rfl yk_87 yc_86
-- IceBoats.knows
def yD88 : List YD := yD_88 :: yD87
theorem yk_88 : ychk yKD (yct yB yD87) xMT xFT xSTX xm94 yD_88.2.1 yD_88.2.2.1 6000 = true := by decide +kernel
theorem yc_88 : ychks yKD yB xMT xFT xSTX yD88 = true := ychks_cons (d := yD_88) (L := yD87) (M := xm94) rfl yk_88 yc_87
-- IceBoats.laterOrNone
def yD89 : List YD := yD_89 :: yD88
theorem yk_89 : ychk yKD (yct yB yD88) xMT xFT xSTX xm102 yD_89.2.1 yD_89.2.2.1 6000 = true := by decide +kernel
theorem yc_89 : ychks yKD yB xMT xFT xSTX yD89 = true := ychks_cons (d := yD_89) (L := yD88) (M := xm102) rfl yk_89 yc_88
-- IceBoats.knownOfAll
def yD90 : List YD := yD_90 :: yD89
theorem yk_90 : ychk yKD (yct yB yD89) xMT xFT xSTX xm101 yD_90.2.1 yD_90.2.2.1 6000 = true := by decide +kernel
theorem yc_90 : ychks yKD yB xMT xFT xSTX yD90 = true := ychks_cons (d := yD_90) (L := yD89) (M := xm101) rfl yk_90 yc_89
