/-! ===== contracts: checks, from 505 on ===== -/
-- IceBoats.sendWord
def yD505 : List YD := yD_505 :: yD504
theorem yk_505 : ychk yKD (yct yB yD504) xMT xFT xSTX xm86 yD_505.2.1 yD_505.2.2.1 6000 = true := by decide +kernel
theorem yc_505 : ychks yKD yB xMT xFT xSTX yD505 = true := ychks_cons (d := yD_505) (L := yD504) (M := xm86) rfl yk_505 yc_504
