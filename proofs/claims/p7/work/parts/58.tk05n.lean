/-! ===== contracts: checks ===== -/
-- IceBoatsModel.mix
def yD499 : List YD := yD_499 :: yD498
theorem yk_499 : ychk yKD (yct yB yD498) xMT xFT xSTX xm252 yD_499.2.1 yD_499.2.2.1 6000 = true := by decide +kernel
theorem yc_499 : ychks yKD yB xMT xFT xSTX yD499 = true := ychks_cons (d := yD_499) (L := yD498) (M := xm252) rfl yk_499 yc_498
-- IceBoatsModel.mixBoats
def yD500 : List YD := yD_500 :: yD499
theorem yk_500 : ychk yKD (yct yB yD499) xMT xFT xSTX xm253 yD_500.2.1 yD_500.2.2.1 6000 = true := by decide +kernel
theorem yc_500 : ychks yKD yB xMT xFT xSTX yD500 = true := ychks_cons (d := yD_500) (L := yD499) (M := xm253) rfl yk_500 yc_499
-- IceBoatsModel.mixWords
def yD501 : List YD := yD_501 :: yD500
theorem yk_501 : ychk yKD (yct yB yD500) xMT xFT xSTX xm254 yD_501.2.1 yD_501.2.2.1 6000 = true := by decide +kernel
theorem yc_501 : ychks yKD yB xMT xFT xSTX yD501 = true := ychks_cons (d := yD_501) (L := yD500) (M := xm254) rfl yk_501 yc_500
-- IceBoatsModel.digest
def yD502 : List YD := yD_502 :: yD501
theorem yk_502 : ychk yKD (yct yB yD501) xMT xFT xSTX xm251 yD_502.2.1 yD_502.2.2.1 6000 = true := by decide +kernel
theorem yc_502 : ychks yKD yB xMT xFT xSTX yD502 = true := ychks_cons (d := yD_502) (L := yD501) (M := xm251) rfl yk_502 yc_501
-- IceBoats.fitsWord
def yD503 : List YD := yD_503 :: yD502
theorem yk_503 : ychk yKD (yct yB yD502) xMT xFT xSTX xm83 yD_503.2.1 yD_503.2.2.1 6000 = true := by decide +kernel
theorem yc_503 : ychks yKD yB xMT xFT xSTX yD503 = true := ychks_cons (d := yD_503) (L := yD502) (M := xm83) rfl yk_503 yc_502
-- IceBoats.holdsLook
def yD504 : List YD := yD_504 :: yD503
theorem yk_504 : ychk yKD (yct yB yD503) xMT xFT xSTX xm84 yD_504.2.1 yD_504.2.2.1 6000 = true := by decide +kernel
theorem yc_504 : ychks yKD yB xMT xFT xSTX yD504 = true := ychks_cons (d := yD_504) (L := yD503) (M := xm84) rfl yk_504 yc_503
