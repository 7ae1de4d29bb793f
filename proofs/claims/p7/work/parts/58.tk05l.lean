/-! ===== contracts: checks ===== -/
-- IceBoatsModel.askedWays
def yD487 : List YD := yD_487 :: yD486
theorem yk_487 : ychk yKD (yct yB yD486) xMT xFT xSTX xm239 yD_487.2.1 yD_487.2.2.1 6000 = true := by decide +kernel
theorem yc_487 : ychks yKD yB xMT xFT xSTX yD487 = true := ychks_cons (d := yD_487) (L := yD486) (M := xm239) rfl yk_487 yc_486
-- IceBoatsModel.odds
def yD488 : List YD := yD_488 :: yD487
def yQ_488_0 : YCut := (101, [(0, 1, (1, 30, 0)), (1, 1, (0, 0, 63)), (2, 1, (0, 0, 5)), (3, 1, (0, 0, 0)), (4, 1, (2, 2, 4)), (6, 1, (0, 0, 0)), (7, 1, (0, 0, 64))], [(0, 7, (1, 32, 0)), (2, 104, (0, 1, 1))], [], (3395, [(5, -392), (6, -2)]), [])
def yQ_488_1 : YCut := (101, [(0, 1, (1, 30, 0)), (1, 1, (0, 0, 63)), (2, 1, (0, 0, 5)), (3, 1, (0, 0, 0)), (4, 1, (2, 2, 16)), (6, 1, (0, 1, 1)), (7, 1, (0, 0, 64))], [(0, 7, (1, 32, 0)), (2, 104, (0, 1, 1))], [], (3395, [(5, -392), (6, -2)]), [])
def yQ_488_2 : YCut := (101, [(0, 1, (1, 30, 0)), (1, 1, (0, 0, 63)), (2, 1, (0, 0, 5)), (3, 1, (0, 0, 0)), (4, 1, (2, 2, 64)), (6, 1, (0, 2, 2)), (7, 1, (0, 0, 64))], [(0, 7, (1, 32, 0)), (2, 104, (0, 1, 1))], [], (3395, [(5, -392), (6, -2)]), [])
def yQ_488_3 : YCut := (101, [(0, 1, (1, 30, 0)), (1, 1, (0, 0, 63)), (2, 1, (0, 0, 5)), (3, 1, (0, 0, 0)), (4, 1, (2, 2, 256)), (6, 1, (0, 3, 3)), (7, 1, (0, 0, 64))], [(0, 7, (1, 32, 0)), (2, 104, (0, 1, 1))], [], (3395, [(5, -392), (6, -2)]), [])
def yQ_488_4 : YCut := (101, [(0, 1, (1, 30, 0)), (1, 1, (0, 0, 63)), (2, 1, (0, 0, 5)), (3, 1, (0, 0, 0)), (4, 1, (2, 2, 1024)), (6, 1, (0, 4, 4)), (7, 1, (0, 0, 64))], [(0, 7, (1, 32, 0)), (2, 104, (0, 1, 1))], [], (3395, [(5, -392), (6, -2)]), [])
def yQ_488_5 : YCut := (101, [(0, 1, (1, 30, 0)), (1, 1, (0, 0, 63)), (2, 1, (0, 0, 5)), (3, 1, (0, 0, 0)), (4, 1, (2, 2, 4096)), (6, 1, (0, 5, 5)), (7, 1, (0, 0, 64))], [(0, 7, (1, 32, 0)), (2, 104, (0, 1, 1))], [], (3395, [(5, -392), (6, -2)]), [])
def yQ_488_6 : YCut := (101, [(0, 1, (1, 30, 0)), (1, 1, (0, 0, 63)), (2, 1, (0, 0, 5)), (3, 1, (0, 0, 0)), (4, 1, (2, 2, 16384)), (6, 1, (0, 6, 6)), (7, 1, (0, 0, 64))], [(0, 7, (1, 32, 0)), (2, 104, (0, 1, 1))], [], (3395, [(5, -392), (6, -2)]), [])
def yQ_488_7 : YCut := (101, [(0, 1, (1, 30, 0)), (1, 1, (0, 0, 63)), (2, 1, (0, 0, 5)), (3, 1, (0, 0, 0)), (4, 1, (2, 2, 65536)), (6, 1, (0, 7, 7)), (7, 1, (0, 0, 64))], [(0, 7, (1, 32, 0)), (2, 104, (0, 1, 1))], [], (3395, [(5, -392), (6, -2)]), [])
def yQ_488_8 : YCut := (181, [(0, 1, (1, 30, 0)), (1, 1, (0, 0, 63)), (2, 1, (0, 0, 5)), (3, 1, (0, 0, 0)), (4, 1, (2, 2, 4)), (6, 1, (0, 0, 0)), (7, 1, (0, 0, 64))], [(0, 7, (1, 32, 0)), (2, 104, (0, 1, 1))], [], (3265, [(5, -392), (6, -2)]), [])
def yQ_488_9 : YCut := (181, [(0, 1, (1, 30, 0)), (1, 1, (0, 0, 63)), (2, 1, (0, 0, 5)), (3, 1, (0, 0, 0)), (4, 1, (2, 2, 16)), (6, 1, (0, 1, 1)), (7, 1, (0, 0, 64))], [(0, 7, (1, 32, 0)), (2, 104, (0, 1, 1))], [], (3265, [(5, -392), (6, -2)]), [])
def yQ_488_10 : YCut := (181, [(0, 1, (1, 30, 0)), (1, 1, (0, 0, 63)), (2, 1, (0, 0, 5)), (3, 1, (0, 0, 0)), (4, 1, (2, 2, 64)), (6, 1, (0, 2, 2)), (7, 1, (0, 0, 64))], [(0, 7, (1, 32, 0)), (2, 104, (0, 1, 1))], [], (3265, [(5, -392), (6, -2)]), [])
def yQ_488_11 : YCut := (181, [(0, 1, (1, 30, 0)), (1, 1, (0, 0, 63)), (2, 1, (0, 0, 5)), (3, 1, (0, 0, 0)), (4, 1, (2, 2, 256)), (6, 1, (0, 3, 3)), (7, 1, (0, 0, 64))], [(0, 7, (1, 32, 0)), (2, 104, (0, 1, 1))], [], (3265, [(5, -392), (6, -2)]), [])
def yQ_488_12 : YCut := (181, [(0, 1, (1, 30, 0)), (1, 1, (0, 0, 63)), (2, 1, (0, 0, 5)), (3, 1, (0, 0, 0)), (4, 1, (2, 2, 1024)), (6, 1, (0, 4, 4)), (7, 1, (0, 0, 64))], [(0, 7, (1, 32, 0)), (2, 104, (0, 1, 1))], [], (3265, [(5, -392), (6, -2)]), [])
def yQ_488_13 : YCut := (181, [(0, 1, (1, 30, 0)), (1, 1, (0, 0, 63)), (2, 1, (0, 0, 5)), (3, 1, (0, 0, 0)), (4, 1, (2, 2, 4096)), (6, 1, (0, 5, 5)), (7, 1, (0, 0, 64))], [(0, 7, (1, 32, 0)), (2, 104, (0, 1, 1))], [], (3265, [(5, -392), (6, -2)]), [])
def yQ_488_14 : YCut := (181, [(0, 1, (1, 30, 0)), (1, 1, (0, 0, 63)), (2, 1, (0, 0, 5)), (3, 1, (0, 0, 0)), (4, 1, (2, 2, 16384)), (6, 1, (0, 6, 6)), (7, 1, (0, 0, 64))], [(0, 7, (1, 32, 0)), (2, 104, (0, 1, 1))], [], (3265, [(5, -392), (6, -2)]), [])
def yQ_488_15 : YCut := (181, [(0, 1, (1, 30, 0)), (1, 1, (0, 0, 63)), (2, 1, (0, 0, 5)), (3, 1, (0, 0, 0)), (4, 1, (2, 2, 65536)), (6, 1, (0, 7, 7)), (7, 1, (0, 0, 64))], [(0, 7, (1, 32, 0)), (2, 104, (0, 1, 1))], [], (3265, [(5, -392), (6, -2)]), [])
def yQ_488_16 : YCut := (55, [(0, 1, (1, 30, 0)), (1, 1, (0, 0, 63)), (2, 1, (0, 0, 5)), (3, 1, (0, 0, 0)), (4, 1, (2, 2, 1)), (6, 1, (0, 0, 0))], [(2, 104, (0, 1, 1))], [], (3527, [(5, -392)]), [])
def yQ_488_17 : YCut := (55, [(0, 1, (1, 30, 0)), (1, 1, (0, 0, 63)), (2, 1, (0, 0, 5)), (3, 1, (0, 0, 0)), (4, 1, (2, 2, 4)), (6, 1, (0, 1, 1)), (7, 1, (0, 64, 64))], [(0, 7, (1, 32, 0)), (2, 104, (0, 1, 1))], [], (3527, [(5, -392)]), [])
def yQ_488_18 : YCut := (55, [(0, 1, (1, 30, 0)), (1, 1, (0, 0, 63)), (2, 1, (0, 0, 5)), (3, 1, (0, 0, 0)), (4, 1, (2, 2, 16)), (6, 1, (0, 2, 2)), (7, 1, (0, 64, 64))], [(0, 7, (1, 32, 0)), (2, 104, (0, 1, 1))], [], (3527, [(5, -392)]), [])
def yQ_488_19 : YCut := (55, [(0, 1, (1, 30, 0)), (1, 1, (0, 0, 63)), (2, 1, (0, 0, 5)), (3, 1, (0, 0, 0)), (4, 1, (2, 2, 64)), (6, 1, (0, 3, 3)), (7, 1, (0, 64, 64))], [(0, 7, (1, 32, 0)), (2, 104, (0, 1, 1))], [], (3527, [(5, -392)]), [])
def yQ_488_20 : YCut := (55, [(0, 1, (1, 30, 0)), (1, 1, (0, 0, 63)), (2, 1, (0, 0, 5)), (3, 1, (0, 0, 0)), (4, 1, (2, 2, 256)), (6, 1, (0, 4, 4)), (7, 1, (0, 64, 64))], [(0, 7, (1, 32, 0)), (2, 104, (0, 1, 1))], [], (3527, [(5, -392)]), [])
def yQ_488_21 : YCut := (55, [(0, 1, (1, 30, 0)), (1, 1, (0, 0, 63)), (2, 1, (0, 0, 5)), (3, 1, (0, 0, 0)), (4, 1, (2, 2, 1024)), (6, 1, (0, 5, 5)), (7, 1, (0, 64, 64))], [(0, 7, (1, 32, 0)), (2, 104, (0, 1, 1))], [], (3527, [(5, -392)]), [])
def yQ_488_22 : YCut := (55, [(0, 1, (1, 30, 0)), (1, 1, (0, 0, 63)), (2, 1, (0, 0, 5)), (3, 1, (0, 0, 0)), (4, 1, (2, 2, 4096)), (6, 1, (0, 6, 6)), (7, 1, (0, 64, 64))], [(0, 7, (1, 32, 0)), (2, 104, (0, 1, 1))], [], (3527, [(5, -392)]), [])
def yQ_488_23 : YCut := (55, [(0, 1, (1, 30, 0)), (1, 1, (0, 0, 63)), (2, 1, (0, 0, 5)), (3, 1, (0, 0, 0)), (4, 1, (2, 2, 16384)), (6, 1, (0, 7, 7)), (7, 1, (0, 64, 64))], [(0, 7, (1, 32, 0)), (2, 104, (0, 1, 1))], [], (3527, [(5, -392)]), [])
def yQ_488_24 : YCut := (55, [(0, 1, (1, 30, 0)), (1, 1, (0, 0, 63)), (2, 1, (0, 0, 5)), (3, 1, (0, 0, 0)), (4, 1, (2, 2, 65536)), (6, 1, (0, 8, 8)), (7, 1, (0, 64, 64))], [(0, 7, (1, 32, 0)), (2, 104, (0, 1, 1))], [], (3527, [(5, -392)]), [])
def yQ_488_25 : YCut := (77, [(0, 1, (1, 30, 0)), (1, 1, (0, 0, 63)), (2, 1, (0, 0, 5)), (3, 1, (0, 0, 0)), (4, 1, (2, 2, 4)), (6, 1, (0, 0, 0)), (7, 1, (0, 0, 64))], [(0, 7, (1, 32, 0)), (2, 104, (0, 1, 1))], [], (3525, [(5, -392), (6, -2)]), [])
def yQ_488_26 : YCut := (77, [(0, 1, (1, 30, 0)), (1, 1, (0, 0, 63)), (2, 1, (0, 0, 5)), (3, 1, (0, 0, 0)), (4, 1, (2, 2, 16)), (6, 1, (0, 1, 1)), (7, 1, (0, 0, 64))], [(0, 7, (1, 32, 0)), (2, 104, (0, 1, 1))], [], (3525, [(5, -392), (6, -2)]), [])
def yQ_488_27 : YCut := (77, [(0, 1, (1, 30, 0)), (1, 1, (0, 0, 63)), (2, 1, (0, 0, 5)), (3, 1, (0, 0, 0)), (4, 1, (2, 2, 64)), (6, 1, (0, 2, 2)), (7, 1, (0, 0, 64))], [(0, 7, (1, 32, 0)), (2, 104, (0, 1, 1))], [], (3525, [(5, -392), (6, -2)]), [])
def yQ_488_28 : YCut := (77, [(0, 1, (1, 30, 0)), (1, 1, (0, 0, 63)), (2, 1, (0, 0, 5)), (3, 1, (0, 0, 0)), (4, 1, (2, 2, 256)), (6, 1, (0, 3, 3)), (7, 1, (0, 0, 64))], [(0, 7, (1, 32, 0)), (2, 104, (0, 1, 1))], [], (3525, [(5, -392), (6, -2)]), [])
def yQ_488_29 : YCut := (77, [(0, 1, (1, 30, 0)), (1, 1, (0, 0, 63)), (2, 1, (0, 0, 5)), (3, 1, (0, 0, 0)), (4, 1, (2, 2, 1024)), (6, 1, (0, 4, 4)), (7, 1, (0, 0, 64))], [(0, 7, (1, 32, 0)), (2, 104, (0, 1, 1))], [], (3525, [(5, -392), (6, -2)]), [])
def yQ_488_30 : YCut := (77, [(0, 1, (1, 30, 0)), (1, 1, (0, 0, 63)), (2, 1, (0, 0, 5)), (3, 1, (0, 0, 0)), (4, 1, (2, 2, 4096)), (6, 1, (0, 5, 5)), (7, 1, (0, 0, 64))], [(0, 7, (1, 32, 0)), (2, 104, (0, 1, 1))], [], (3525, [(5, -392), (6, -2)]), [])
def yQ_488_31 : YCut := (77, [(0, 1, (1, 30, 0)), (1, 1, (0, 0, 63)), (2, 1, (0, 0, 5)), (3, 1, (0, 0, 0)), (4, 1, (2, 2, 16384)), (6, 1, (0, 6, 6)), (7, 1, (0, 0, 64))], [(0, 7, (1, 32, 0)), (2, 104, (0, 1, 1))], [], (3525, [(5, -392), (6, -2)]), [])
def yQ_488_32 : YCut := (77, [(0, 1, (1, 30, 0)), (1, 1, (0, 0, 63)), (2, 1, (0, 0, 5)), (3, 1, (0, 0, 0)), (4, 1, (2, 2, 65536)), (6, 1, (0, 7, 7)), (7, 1, (0, 0, 64))], [(0, 7, (1, 32, 0)), (2, 104, (0, 1, 1))], [], (3525, [(5, -392), (6, -2)]), [])
def yQ_488_33 : YCut := (18, [(0, 1, (1, 30, 0)), (1, 1, (0, 0, 63)), (2, 1, (0, 0, 5)), (3, 1, (0, 0, 0)), (4, 1, (0, 0, 64))], [(2, 104, (0, 1, 1))], [], (3657, [(4, -2)]), [])
theorem yq_488_0 : ycut1 yKD yD_488.2.1.2.2.1 (yct yB yD487) xMT xFT xSTX xm238 (ypst1 yD_488.2.1.2.2.2) yD_488.2.2.1 6000 yQ_488_0 = true := by decide +kernel
theorem yq_488_1 : ycut1 yKD yD_488.2.1.2.2.1 (yct yB yD487) xMT xFT xSTX xm238 (ypst1 yD_488.2.1.2.2.2) yD_488.2.2.1 6000 yQ_488_1 = true := by decide +kernel
theorem yq_488_2 : ycut1 yKD yD_488.2.1.2.2.1 (yct yB yD487) xMT xFT xSTX xm238 (ypst1 yD_488.2.1.2.2.2) yD_488.2.2.1 6000 yQ_488_2 = true := by decide +kernel
theorem yq_488_3 : ycut1 yKD yD_488.2.1.2.2.1 (yct yB yD487) xMT xFT xSTX xm238 (ypst1 yD_488.2.1.2.2.2) yD_488.2.2.1 6000 yQ_488_3 = true := by decide +kernel
theorem yq_488_4 : ycut1 yKD yD_488.2.1.2.2.1 (yct yB yD487) xMT xFT xSTX xm238 (ypst1 yD_488.2.1.2.2.2) yD_488.2.2.1 6000 yQ_488_4 = true := by decide +kernel
theorem yq_488_5 : ycut1 yKD yD_488.2.1.2.2.1 (yct yB yD487) xMT xFT xSTX xm238 (ypst1 yD_488.2.1.2.2.2) yD_488.2.2.1 6000 yQ_488_5 = true := by decide +kernel
theorem yq_488_6 : ycut1 yKD yD_488.2.1.2.2.1 (yct yB yD487) xMT xFT xSTX xm238 (ypst1 yD_488.2.1.2.2.2) yD_488.2.2.1 6000 yQ_488_6 = true := by decide +kernel
theorem yq_488_7 : ycut1 yKD yD_488.2.1.2.2.1 (yct yB yD487) xMT xFT xSTX xm238 (ypst1 yD_488.2.1.2.2.2) yD_488.2.2.1 6000 yQ_488_7 = true := by decide +kernel
theorem yq_488_8 : ycut1 yKD yD_488.2.1.2.2.1 (yct yB yD487) xMT xFT xSTX xm238 (ypst1 yD_488.2.1.2.2.2) yD_488.2.2.1 6000 yQ_488_8 = true := by decide +kernel
theorem yq_488_9 : ycut1 yKD yD_488.2.1.2.2.1 (yct yB yD487) xMT xFT xSTX xm238 (ypst1 yD_488.2.1.2.2.2) yD_488.2.2.1 6000 yQ_488_9 = true := by decide +kernel
theorem yq_488_10 : ycut1 yKD yD_488.2.1.2.2.1 (yct yB yD487) xMT xFT xSTX xm238 (ypst1 yD_488.2.1.2.2.2) yD_488.2.2.1 6000 yQ_488_10 = true := by decide +kernel
theorem yq_488_11 : ycut1 yKD yD_488.2.1.2.2.1 (yct yB yD487) xMT xFT xSTX xm238 (ypst1 yD_488.2.1.2.2.2) yD_488.2.2.1 6000 yQ_488_11 = true := by decide +kernel
theorem yq_488_12 : ycut1 yKD yD_488.2.1.2.2.1 (yct yB yD487) xMT xFT xSTX xm238 (ypst1 yD_488.2.1.2.2.2) yD_488.2.2.1 6000 yQ_488_12 = true := by decide +kernel
theorem yq_488_13 : ycut1 yKD yD_488.2.1.2.2.1 (yct yB yD487) xMT xFT xSTX xm238 (ypst1 yD_488.2.1.2.2.2) yD_488.2.2.1 6000 yQ_488_13 = true := by decide +kernel
theorem yq_488_14 : ycut1 yKD yD_488.2.1.2.2.1 (yct yB yD487) xMT xFT xSTX xm238 (ypst1 yD_488.2.1.2.2.2) yD_488.2.2.1 6000 yQ_488_14 = true := by decide +kernel
theorem yq_488_15 : ycut1 yKD yD_488.2.1.2.2.1 (yct yB yD487) xMT xFT xSTX xm238 (ypst1 yD_488.2.1.2.2.2) yD_488.2.2.1 6000 yQ_488_15 = true := by decide +kernel
theorem yq_488_16 : ycut1 yKD yD_488.2.1.2.2.1 (yct yB yD487) xMT xFT xSTX xm238 (ypst1 yD_488.2.1.2.2.2) yD_488.2.2.1 6000 yQ_488_16 = true := by decide +kernel
theorem yq_488_17 : ycut1 yKD yD_488.2.1.2.2.1 (yct yB yD487) xMT xFT xSTX xm238 (ypst1 yD_488.2.1.2.2.2) yD_488.2.2.1 6000 yQ_488_17 = true := by decide +kernel
theorem yq_488_18 : ycut1 yKD yD_488.2.1.2.2.1 (yct yB yD487) xMT xFT xSTX xm238 (ypst1 yD_488.2.1.2.2.2) yD_488.2.2.1 6000 yQ_488_18 = true := by decide +kernel
theorem yq_488_19 : ycut1 yKD yD_488.2.1.2.2.1 (yct yB yD487) xMT xFT xSTX xm238 (ypst1 yD_488.2.1.2.2.2) yD_488.2.2.1 6000 yQ_488_19 = true := by decide +kernel
theorem yq_488_20 : ycut1 yKD yD_488.2.1.2.2.1 (yct yB yD487) xMT xFT xSTX xm238 (ypst1 yD_488.2.1.2.2.2) yD_488.2.2.1 6000 yQ_488_20 = true := by decide +kernel
theorem yq_488_21 : ycut1 yKD yD_488.2.1.2.2.1 (yct yB yD487) xMT xFT xSTX xm238 (ypst1 yD_488.2.1.2.2.2) yD_488.2.2.1 6000 yQ_488_21 = true := by decide +kernel
theorem yq_488_22 : ycut1 yKD yD_488.2.1.2.2.1 (yct yB yD487) xMT xFT xSTX xm238 (ypst1 yD_488.2.1.2.2.2) yD_488.2.2.1 6000 yQ_488_22 = true := by decide +kernel
theorem yq_488_23 : ycut1 yKD yD_488.2.1.2.2.1 (yct yB yD487) xMT xFT xSTX xm238 (ypst1 yD_488.2.1.2.2.2) yD_488.2.2.1 6000 yQ_488_23 = true := by decide +kernel
theorem yq_488_24 : ycut1 yKD yD_488.2.1.2.2.1 (yct yB yD487) xMT xFT xSTX xm238 (ypst1 yD_488.2.1.2.2.2) yD_488.2.2.1 6000 yQ_488_24 = true := by decide +kernel
theorem yq_488_25 : ycut1 yKD yD_488.2.1.2.2.1 (yct yB yD487) xMT xFT xSTX xm238 (ypst1 yD_488.2.1.2.2.2) yD_488.2.2.1 6000 yQ_488_25 = true := by decide +kernel
theorem yq_488_26 : ycut1 yKD yD_488.2.1.2.2.1 (yct yB yD487) xMT xFT xSTX xm238 (ypst1 yD_488.2.1.2.2.2) yD_488.2.2.1 6000 yQ_488_26 = true := by decide +kernel
theorem yq_488_27 : ycut1 yKD yD_488.2.1.2.2.1 (yct yB yD487) xMT xFT xSTX xm238 (ypst1 yD_488.2.1.2.2.2) yD_488.2.2.1 6000 yQ_488_27 = true := by decide +kernel
theorem yq_488_28 : ycut1 yKD yD_488.2.1.2.2.1 (yct yB yD487) xMT xFT xSTX xm238 (ypst1 yD_488.2.1.2.2.2) yD_488.2.2.1 6000 yQ_488_28 = true := by decide +kernel
theorem yq_488_29 : ycut1 yKD yD_488.2.1.2.2.1 (yct yB yD487) xMT xFT xSTX xm238 (ypst1 yD_488.2.1.2.2.2) yD_488.2.2.1 6000 yQ_488_29 = true := by decide +kernel
theorem yq_488_30 : ycut1 yKD yD_488.2.1.2.2.1 (yct yB yD487) xMT xFT xSTX xm238 (ypst1 yD_488.2.1.2.2.2) yD_488.2.2.1 6000 yQ_488_30 = true := by decide +kernel
theorem yq_488_31 : ycut1 yKD yD_488.2.1.2.2.1 (yct yB yD487) xMT xFT xSTX xm238 (ypst1 yD_488.2.1.2.2.2) yD_488.2.2.1 6000 yQ_488_31 = true := by decide +kernel
theorem yq_488_32 : ycut1 yKD yD_488.2.1.2.2.1 (yct yB yD487) xMT xFT xSTX xm238 (ypst1 yD_488.2.1.2.2.2) yD_488.2.2.1 6000 yQ_488_32 = true := by decide +kernel
theorem yq_488_33 : ycut1 yKD yD_488.2.1.2.2.1 (yct yB yD487) xMT xFT xSTX xm238 (ypst1 yD_488.2.1.2.2.2) yD_488.2.2.1 6000 yQ_488_33 = true := by decide +kernel
theorem yk_488 : ychk yKD (yct yB yD487) xMT xFT xSTX xm238 yD_488.2.1 yD_488.2.2.1 6000 = true := ychk_of (ge := []) rfl (by decide) (by decide +kernel) (show ∀ c ∈ yD_488.2.2.1, _ from List.forall_mem_cons.mpr ⟨yq_488_0, List.forall_mem_cons.mpr ⟨yq_488_1, List.forall_mem_cons.mpr ⟨yq_488_2, List.forall_mem_cons.mpr ⟨yq_488_3, List.forall_mem_cons.mpr ⟨yq_488_4, List.forall_mem_cons.mpr ⟨yq_488_5, List.forall_mem_cons.mpr ⟨yq_488_6, List.forall_mem_cons.mpr ⟨yq_488_7, List.forall_mem_cons.mpr ⟨yq_488_8, List.forall_mem_cons.mpr ⟨yq_488_9, List.forall_mem_cons.mpr ⟨yq_488_10, List.forall_mem_cons.mpr ⟨yq_488_11, List.forall_mem_cons.mpr ⟨yq_488_12, List.forall_mem_cons.mpr ⟨yq_488_13, List.forall_mem_cons.mpr ⟨yq_488_14, List.forall_mem_cons.mpr ⟨yq_488_15, List.forall_mem_cons.mpr ⟨yq_488_16, List.forall_mem_cons.mpr ⟨yq_488_17, List.forall_mem_cons.mpr ⟨yq_488_18, List.forall_mem_cons.mpr ⟨yq_488_19, List.forall_mem_cons.mpr ⟨yq_488_20, List.forall_mem_cons.mpr ⟨yq_488_21, List.forall_mem_cons.mpr ⟨yq_488_22, List.forall_mem_cons.mpr ⟨yq_488_23, List.forall_mem_cons.mpr ⟨yq_488_24, List.forall_mem_cons.mpr ⟨yq_488_25, List.forall_mem_cons.mpr ⟨yq_488_26, List.forall_mem_cons.mpr ⟨yq_488_27, List.forall_mem_cons.mpr ⟨yq_488_28, List.forall_mem_cons.mpr ⟨yq_488_29, List.forall_mem_cons.mpr ⟨yq_488_30, List.forall_mem_cons.mpr ⟨yq_488_31, List.forall_mem_cons.mpr ⟨yq_488_32, List.forall_mem_cons.mpr ⟨yq_488_33, fun _ h => absurd h List.not_mem_nil⟩⟩⟩⟩⟩⟩⟩⟩⟩⟩⟩⟩⟩⟩⟩⟩⟩⟩⟩⟩⟩⟩⟩⟩⟩⟩⟩⟩⟩⟩⟩⟩⟩⟩)
theorem yc_488 : ychks yKD yB xMT xFT xSTX yD488 = true := ychks_cons (d := yD_488) (L := yD487) (M := xm238) rfl yk_488 yc_487
-- IceBoatsModel.isCourse
def yD489 : List YD := yD_489 :: yD488
theorem yk_489 : ychk yKD (yct yB yD488) xMT xFT xSTX xm242 yD_489.2.1 yD_489.2.2.1 6000 = true := by decide +kernel
theorem yc_489 : ychks yKD yB xMT xFT xSTX yD489 = true := ychks_cons (d := yD_489) (L := yD488) (M := xm242) rfl yk_489 yc_488
-- IceBoatsModel.courses
def yD490 : List YD := yD_490 :: yD489
theorem yk_490 : ychk yKD (yct yB yD489) xMT xFT xSTX xm241 yD_490.2.1 yD_490.2.2.1 6000 = true := by decide +kernel
theorem yc_490 : ychks yKD yB xMT xFT xSTX yD490 = true := ychks_cons (d := yD_490) (L := yD489) (M := xm241) rfl yk_490 yc_489
-- IceBoatsModel.asked
def yD491 : List YD := yD_491 :: yD490
theorem yk_491 : ychk yKD (yct yB yD490) xMT xFT xSTX xm243 yD_491.2.1 yD_491.2.2.1 6000 = true := by decide +kernel
theorem yc_491 : ychks yKD yB xMT xFT xSTX yD491 = true := ychks_cons (d := yD_491) (L := yD490) (M := xm243) rfl yk_491 yc_490
-- IceBoatsModel.set
def yD492 : List YD := yD_492 :: yD491
theorem yk_492 : ychk yKD (yct yB yD491) xMT xFT xSTX xm244 yD_492.2.1 yD_492.2.2.1 6000 = true := by decide +kernel
theorem yc_492 : ychks yKD yB xMT xFT xSTX yD492 = true := ychks_cons (d := yD_492) (L := yD491) (M := xm244) rfl yk_492 yc_491
