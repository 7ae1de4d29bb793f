/-! ===== contracts: data and checks ===== -/
def yD0 : List YD := []
-- IceBoats.rowAt
def yD_1 : YD := (9, ([(1, 0, 0), (0, -2147483648, 2147483647)], [], true, [(some (.inl (1, 3, 0)), [(0, [(1, 1)]), (5, [(1, -1)])]), (some (.inl (3, 0, 0)), [(-6, [(1, 1)])]), (some (.inl (3, 0, 0)), [(-1, [(1, -1)])])]), [], 400)
def yD1 : List YD := yD_1 :: yD0
theorem yk_1 : ychk yKD (yct yCT0 yD0) xMT xFT yEX xm9 yD_1.2.1 yD_1.2.2.1 400 = true := by decide +kernel
-- IceBoats.found
def yD_2 : YD := (10, ([(1, 0, 0), (0, 1, 5)], [], false, [(some (.inr (-3, [])), [])]), [], 400)
def yD2 : List YD := yD_2 :: yD1
theorem yk_2 : ychk yKD (yct yCT0 yD1) xMT xFT yEX xm10 yD_2.2.1 yD_2.2.2.1 400 = true := by decide +kernel
-- IceBoats$Row.beAnew
def yD_3 : YD := (11, ([(1, 3, 0), (0, 0, 40), (0, 0, 0)], [], false, [(none, [])]), [(7, [(0, 1, (1, 3, 0)), (1, 1, (0, 0, 40)), (2, 1, (0, 0, 0)), (3, 1, (0, 0, 40))], [(0, 1, (0, 0, 40))], [], (81, [(3, -2)]))], 400)
def yD3 : List YD := yD_3 :: yD2
theorem yk_3 : ychk yKD (yct yCT0 yD2) xMT xFT yEX xm11 yD_3.2.1 yD_3.2.2.1 400 = true := by decide +kernel
-- IceBoats.row
def yD_4 : YD := (8, ([(1, 0, 0), (0, -2147483648, 2147483647), (0, -2147483648, 2147483647)], [], false, [(some (.inr (-1, [])), [(-1, [(1, -1)])]), (some (.inr (-1, [])), [(-6, [(1, 1)])]), (some (.inr (-1, [])), [(-41, [(2, 1)]), (0, [(1, 1)]), (5, [(1, -1)])]), (some (.inr (-3, [])), [(-1, [(2, -1)]), (0, [(1, 1)]), (5, [(1, -1)])]), (some (.inr (0, [(2, 1)])), [(0, [(1, 1)]), (0, [(2, 1)]), (5, [(1, -1)]), (40, [(2, -1)])])]), [], 400)
def yD4 : List YD := yD_4 :: yD3
theorem yk_4 : ychk yKD (yct yCT0 yD3) xMT xFT yEX xm8 yD_4.2.1 yD_4.2.2.1 400 = true := by decide +kernel
-- IceBoats$Row.isMissing
def yD_5 : YD := (13, ([(1, 3, 0)], [(0, 1)], true, [(some (.inr (1, [])), [(-1, [(1, -1)])]), (some (.inr (0, [])), [(0, [(1, 1)])])]), [], 400)
def yD5 : List YD := yD_5 :: yD4
theorem yk_5 : ychk yKD (yct yCT0 yD4) xMT xFT yEX xm13 yD_5.2.1 yD_5.2.2.1 400 = true := by decide +kernel
-- IceBoats$Row.holds
def yD_6 : YD := (14, ([(1, 3, 0), (0, -2147483648, 2147483647), (0, -2147483648, 2147483647)], [(0, 1)], true, [(some (.inr (1, [])), [(0, [(1, -1), (2, -1), (3, 1)]), (0, [(1, 1)]), (0, [(2, -1), (3, 1)]), (0, [(2, 1)]), (0, [(3, 1)]), (40, [(1, -1)]), (40, [(2, -1)])]), (some (.inr (0, [])), [(-1, [(1, 1), (2, 1), (3, -1)]), (0, [(1, 1)]), (0, [(2, -1), (3, 1)]), (0, [(2, 1)]), (0, [(3, 1)]), (40, [(2, -1)])]), (some (.inr (0, [])), [(-1, [(2, 1), (3, -1)]), (0, [(1, 1)]), (0, [(2, 1)])]), (some (.inr (0, [])), [(-1, [(2, -1)]), (0, [(1, 1)])]), (some (.inr (0, [])), [(-1, [(1, -1)])])]), [], 400)
def yD6 : List YD := yD_6 :: yD5
theorem yk_6 : ychk yKD (yct yCT0 yD5) xMT xFT yEX xm14 yD_6.2.1 yD_6.2.2.1 400 = true := by decide +kernel
-- IceBoats.tellAsked
def yD_7 : YD := (15, ([(1, 0, 0), (0, -2147483648, 2147483647)], [], false, [(some (.inr (1, [])), [])]), [], 400)
def yD7 : List YD := yD_7 :: yD6
theorem yk_7 : ychk yKD (yct yCT0 yD6) xMT xFT yEX xm15 yD_7.2.1 yD_7.2.2.1 400 = true := by decide +kernel
-- IceBoats.lay
def yD_8 : YD := (12, ([(1, 0, 0), (0, -2147483648, 2147483647), (0, -2147483648, 2147483647), (0, -2147483648, 2147483647)], [], false, [(some (.inr (-1, [])), [(-1, [(1, -1)])]), (some (.inr (-1, [])), [(-6, [(1, 1)])]), (some (.inr (-3, [])), [(-1, [(2, -1)]), (0, [(1, 1)]), (5, [(1, -1)])]), (some (.inr (-3, [])), [(0, [(1, 1)]), (0, [(2, 1)]), (5, [(1, -1)])]), (some (.inr (1, [])), [(0, [(1, 1)]), (0, [(2, 1)]), (5, [(1, -1)]), (39, [(2, -1)])]), (some (.inr (-3, [])), [(0, [(1, 1)]), (5, [(1, -1)])])]), [], 400)
def yD8 : List YD := yD_8 :: yD7
theorem yk_8 : ychk yKD (yct yCT0 yD7) xMT xFT yEX xm12 yD_8.2.1 yD_8.2.2.1 400 = true := by decide +kernel
-- IceBoats.tear
def yD_9 : YD := (16, ([(1, 0, 0), (0, -2147483648, 2147483647)], [], false, [(some (.inr (-1, [])), [(-1, [(1, -1)])]), (some (.inr (-1, [])), [(-6, [(1, 1)])]), (some (.inr (1, [])), [(0, [(1, 1)]), (5, [(1, -1)])]), (some (.inr (-3, [])), [(0, [(1, 1)]), (5, [(1, -1)])])]), [], 400)
def yD9 : List YD := yD_9 :: yD8
theorem yk_9 : ychk yKD (yct yCT0 yD8) xMT xFT yEX xm16 yD_9.2.1 yD_9.2.2.1 400 = true := by decide +kernel
-- IceBoats.copy
def yD_10 : YD := (17, ([(1, 0, 0), (0, -2147483648, 2147483647), (0, -2147483648, 2147483647), (0, -2147483648, 2147483647), (0, -2147483648, 2147483647), (0, -2147483648, 2147483647)], [], false, [(some (.inr (-1, [])), [(-1, [(1, -1)]), (-1, [(3, -1)])]), (some (.inr (-1, [])), [(-6, [(3, 1)]), (-1, [(1, -1)])]), (some (.inr (-1, [])), [(-1, [(1, -1)]), (0, [(3, 1)]), (5, [(3, -1)])]), (some (.inr (-1, [])), [(-6, [(1, 1)]), (-1, [(3, -1)])]), (some (.inr (-1, [])), [(-6, [(1, 1)]), (-6, [(3, 1)])]), (some (.inr (-1, [])), [(-6, [(1, 1)]), (0, [(3, 1)]), (5, [(3, -1)])]), (some (.inr (-1, [])), [(-1, [(3, -1)]), (0, [(1, 1)]), (5, [(1, -1)])]), (some (.inr (-1, [])), [(-6, [(3, 1)]), (0, [(1, 1)]), (5, [(1, -1)])]), (some (.inr (-3, [])), [(-1, [(5, -1)]), (0, [(1, 1)]), (0, [(3, 1)]), (5, [(1, -1)]), (5, [(3, -1)])]), (some (.inr (-3, [])), [(-1, [(2, -1)]), (0, [(1, 1)]), (0, [(3, 1)]), (0, [(5, 1)]), (5, [(1, -1)]), (5, [(3, -1)])]), (some (.inr (-3, [])), [(-1, [(5, 1)]), (0, [(1, 1)]), (0, [(2, 1)]), (0, [(3, 1)]), (5, [(1, -1)]), (5, [(3, -1)])]), (some (.inr (-3, [])), [(0, [(1, 1)]), (0, [(2, 1)]), (0, [(3, 1)]), (0, [(5, 1)]), (5, [(1, -1)]), (5, [(3, -1)]), (40, [(5, -1)])]), (some (.inr (-3, [])), [(-1, [(4, -1)]), (0, [(1, 1)]), (0, [(2, 1)]), (0, [(3, 1)]), (0, [(5, 1)]), (5, [(1, -1)]), (5, [(3, -1)]), (40, [(2, -1)]), (40, [(5, -1)])]), (some (.inr (-3, [])), [(-1, [(5, 1)]), (0, [(1, 1)]), (0, [(2, 1)]), (0, [(3, 1)]), (0, [(4, 1)]), (5, [(1, -1)]), (5, [(3, -1)]), (40, [(2, -1)]), (40, [(5, -1)])]), (some (.inr (-3, [])), [(0, [(1, 1)]), (0, [(2, 1)]), (0, [(3, 1)]), (0, [(4, 1)]), (0, [(5, 1)]), (5, [(1, -1)]), (5, [(3, -1)]), (40, [(2, -1)]), (40, [(5, -1)])]), (some (.inr (1, [])), [(0, [(1, 1)]), (0, [(2, 1)]), (0, [(3, 1)]), (0, [(4, 1)]), (0, [(5, 1)]), (5, [(1, -1)]), (5, [(3, -1)]), (40, [(2, -1)]), (40, [(4, -1)]), (40, [(5, -1)])]), (some (.inr (-3, [])), [(0, [(1, 1)]), (0, [(3, 1)]), (0, [(5, 1)]), (5, [(1, -1)]), (5, [(3, -1)])])]), [], 400)
def yD10 : List YD := yD_10 :: yD9
theorem yk_10 : ychk yKD (yct yCT0 yD9) xMT xFT yEX xm17 yD_10.2.1 yD_10.2.2.1 400 = true := by decide +kernel
-- IceBoats.mean
def yD_11 : YD := (18, ([(1, 0, 0), (0, -2147483648, 2147483647)], [], false, [(some (.inr (-3, [])), []), (some (.inr (-1, [])), []), (some (.inr (1, [])), [])]), [(43, [(0, 1, (1, 0, 0)), (1, 1, (0, 0, 5)), (2, 1, (1, 3, 0)), (3, 1, (2, 0, 0)), (5, 1, (0, 0, 40))], [(2, 1, (0, 1, 40))], [], (81, [(4, -2)]))], 400)
def yD11 : List YD := yD_11 :: yD10
theorem yk_11 : ychk yKD (yct yCT0 yD10) xMT xFT yEX xm18 yD_11.2.1 yD_11.2.2.1 400 = true := by decide +kernel
-- IceBoats.textAt
def yD_12 : YD := (20, ([(1, 0, 0), (0, -2147483648, 2147483647)], [], true, [(some (.inl (1, 3, 0)), [(0, [(1, 1)]), (3, [(1, -1)])]), (some (.inl (3, 0, 0)), [(-4, [(1, 1)])]), (some (.inl (3, 0, 0)), [(-1, [(1, -1)])])]), [], 400)
def yD12 : List YD := yD_12 :: yD11
theorem yk_12 : ychk yKD (yct yCT0 yD11) xMT xFT yEX xm20 yD_12.2.1 yD_12.2.2.1 400 = true := by decide +kernel
-- IceBoats$Row.beAnew
def yD_13 : YD := (11, ([(1, 3, 0), (0, 0, 40), (0, 1, 36)], [], false, [(none, [])]), [(7, [(0, 1, (1, 3, 0)), (1, 1, (0, 0, 40)), (2, 1, (0, 1, 36)), (3, 1, (0, 0, 40))], [(0, 1, (0, 0, 40))], [], (81, [(3, -2)]))], 400)
def yD13 : List YD := yD_13 :: yD12
theorem yk_13 : ychk yKD (yct yCT0 yD12) xMT xFT yEX xm11 yD_13.2.1 yD_13.2.2.1 400 = true := by decide +kernel
-- IceBoats.text
def yD_14 : YD := (19, ([(1, 0, 0), (0, -2147483648, 2147483647), (0, -2147483648, 2147483647)], [], false, [(some (.inr (-1, [])), [(-1, [(1, -1)])]), (some (.inr (-1, [])), [(-4, [(1, 1)])]), (some (.inr (-1, [])), [(-41, [(2, 1)]), (0, [(1, 1)]), (3, [(1, -1)])]), (some (.inr (-3, [])), [(-1, [(2, -1)]), (0, [(1, 1)]), (3, [(1, -1)])]), (some (.inr (0, [(2, 1)])), [(0, [(1, 1)]), (0, [(2, 1)]), (3, [(1, -1)]), (40, [(2, -1)])])]), [], 400)
def yD14 : List YD := yD_14 :: yD13
theorem yk_14 : ychk yKD (yct yCT0 yD13) xMT xFT yEX xm19 yD_14.2.1 yD_14.2.2.1 400 = true := by decide +kernel
-- IceBoats.put
def yD_15 : YD := (21, ([(1, 0, 0), (0, -2147483648, 2147483647), (0, -2147483648, 2147483647), (0, -2147483648, 2147483647)], [], false, [(some (.inr (-1, [])), [(-1, [(1, -1)])]), (some (.inr (-1, [])), [(-4, [(1, 1)])]), (some (.inr (-3, [])), [(-1, [(2, -1)]), (0, [(1, 1)]), (3, [(1, -1)])]), (some (.inr (-3, [])), [(0, [(1, 1)]), (0, [(2, 1)]), (3, [(1, -1)])]), (some (.inl (0, -2147483648, 2147483647)), [(0, [(1, 1)]), (0, [(2, 1)]), (3, [(1, -1)]), (39, [(2, -1)])]), (some (.inr (-3, [])), [(0, [(1, 1)]), (3, [(1, -1)])])]), [], 400)
def yD15 : List YD := yD_15 :: yD14
theorem yk_15 : ychk yKD (yct yCT0 yD14) xMT xFT yEX xm21 yD_15.2.1 yD_15.2.2.1 400 = true := by decide +kernel
-- IceBoats.isCell
def yD_16 : YD := (23, ([(0, -2147483648, 2147483647)], [], true, [(some (.inr (1, [])), [(0, [(0, 1)]), (63, [(0, -1)])]), (some (.inr (0, [])), [(-64, [(0, 1)])]), (some (.inr (0, [])), [(-1, [(0, -1)])])]), [], 400)
def yD16 : List YD := yD_16 :: yD15
theorem yk_16 : ychk yKD (yct yCT0 yD15) xMT xFT yEX xm23 yD_16.2.1 yD_16.2.2.1 400 = true := by decide +kernel
-- IceBoats.boatLiesIn
def yD_17 : YD := (24, ([(1, 0, 0), (0, -2147483648, 2147483647)], [], true, [(some (.inr (0, [])), []), (some (.inr (1, [])), [])]), [(2, [(0, 1, (1, 0, 0)), (1, 1, (0, -2147483648, 2147483647)), (2, 1, (0, 0, 6))], [], [], (13, [(2, -2)]))], 400)
def yD17 : List YD := yD_17 :: yD16
theorem yk_17 : ychk yKD (yct yCT0 yD16) xMT xFT yEX xm24 yD_17.2.1 yD_17.2.2.1 400 = true := by decide +kernel
-- IceBoats.hasBit
def yD_18 : YD := (26, ([(2, 0, 0), (0, -2147483648, 2147483647)], [], true, [(some (.inr (1, [])), []), (some (.inr (0, [])), [])]), [], 400)
def yD18 : List YD := yD_18 :: yD17
theorem yk_18 : ychk yKD (yct yCT0 yD17) xMT xFT yEX xm26 yD_18.2.1 yD_18.2.2.1 400 = true := by decide +kernel
-- IceBoats$Sea.isRock
def yD_19 : YD := (25, ([(1, 5, 0), (0, -2147483648, 2147483647)], [], true, [(some (.inr (0, [])), []), (some (.inr (1, [])), [])]), [], 400)
def yD19 : List YD := yD_19 :: yD18
theorem yk_19 : ychk yKD (yct yCT0 yD18) xMT xFT yEX xm25 yD_19.2.1 yD_19.2.2.1 400 = true := by decide +kernel
-- IceBoats$Sea.becomeRock
def yD_20 : YD := (27, ([(1, 5, 0), (0, -2147483648, 2147483647), (0, -2147483648, 2147483647)], [], false, [(none, [(-1, [(2, 1)])]), (none, [(-1, [(2, -1)])]), (none, [(0, [(2, -1)]), (0, [(2, 1)])])]), [], 400)
def yD20 : List YD := yD_20 :: yD19
theorem yk_20 : ychk yKD (yct yCT0 yD19) xMT xFT yEX xm27 yD_20.2.1 yD_20.2.2.1 400 = true := by decide +kernel
-- IceBoats.rock
def yD_21 : YD := (22, ([(1, 0, 0), (0, -2147483648, 2147483647), (0, -2147483648, 2147483647)], [], false, [(some (.inr (-1, [])), [(-1, [(1, -1)])]), (some (.inr (-1, [])), [(-64, [(1, 1)])]), (some (.inr (-4, [])), [(-1, [(1, 1)]), (-1, [(2, 1)]), (63, [(1, -1)])]), (some (.inr (1, [])), [(-1, [(1, 1)]), (-1, [(2, 1)]), (63, [(1, -1)])]), (some (.inr (0, [])), [(-1, [(1, 1)]), (-1, [(2, 1)]), (63, [(1, -1)])]), (some (.inr (-4, [])), [(-1, [(2, 1)]), (0, [(1, 1)]), (62, [(1, -1)])]), (some (.inr (1, [])), [(-1, [(2, 1)]), (0, [(1, 1)]), (62, [(1, -1)])]), (some (.inr (0, [])), [(-1, [(2, 1)]), (0, [(1, 1)]), (62, [(1, -1)])]), (some (.inr (-4, [])), [(-1, [(2, 1)]), (0, [(1, 1)]), (63, [(1, -1)])]), (some (.inr (-4, [])), [(-1, [(1, 1)]), (-1, [(2, -1)]), (63, [(1, -1)])]), (some (.inr (1, [])), [(-1, [(1, 1)]), (-1, [(2, -1)]), (63, [(1, -1)])]), (some (.inr (0, [])), [(-1, [(1, 1)]), (-1, [(2, -1)]), (63, [(1, -1)])]), (some (.inr (-4, [])), [(-1, [(2, -1)]), (0, [(1, 1)]), (62, [(1, -1)])]), (some (.inr (1, [])), [(-1, [(2, -1)]), (0, [(1, 1)]), (62, [(1, -1)])]), (some (.inr (0, [])), [(-1, [(2, -1)]), (0, [(1, 1)]), (62, [(1, -1)])]), (some (.inr (-4, [])), [(-1, [(2, -1)]), (0, [(1, 1)]), (63, [(1, -1)])]), (some (.inr (1, [])), [(0, [(1, 1)]), (0, [(2, -1)]), (0, [(2, 1)]), (63, [(1, -1)])]), (some (.inr (0, [])), [(0, [(1, 1)]), (0, [(2, -1)]), (0, [(2, 1)]), (63, [(1, -1)])])]), [], 400)
def yD21 : List YD := yD_21 :: yD20
theorem yk_21 : ychk yKD (yct yCT0 yD20) xMT xFT yEX xm22 yD_21.2.1 yD_21.2.2.1 400 = true := by decide +kernel
-- IceBoats.isWay
def yD_22 : YD := (29, ([(0, -2147483648, 2147483647)], [], true, [(some (.inr (1, [])), [(0, [(0, 1)]), (4, [(0, -1)])]), (some (.inr (0, [])), [(-5, [(0, 1)])]), (some (.inr (0, [])), [(-1, [(0, -1)])])]), [], 400)
def yD22 : List YD := yD_22 :: yD21
theorem yk_22 : ychk yKD (yct yCT0 yD21) xMT xFT yEX xm29 yD_22.2.1 yD_22.2.2.1 400 = true := by decide +kernel
-- IceBoats.isIce
def yD_23 : YD := (30, ([(0, -2147483648, 2147483647)], [], true, [(some (.inr (1, [])), [(0, [(0, 1)]), (9, [(0, -1)])]), (some (.inr (0, [])), [(-10, [(0, 1)])]), (some (.inr (0, [])), [(-1, [(0, -1)])])]), [], 400)
def yD23 : List YD := yD_23 :: yD22
theorem yk_23 : ychk yKD (yct yCT0 yD22) xMT xFT yEX xm30 yD_23.2.1 yD_23.2.2.1 400 = true := by decide +kernel
-- IceBoats$Sea.becomeWarm
def yD_24 : YD := (31, ([(1, 5, 0), (0, 0, 63), (0, 1, 4)], [], false, [(none, [])]), [], 400)
def yD24 : List YD := yD_24 :: yD23
theorem yk_24 : ychk yKD (yct yCT0 yD23) xMT xFT yEX xm31 yD_24.2.1 yD_24.2.2.1 400 = true := by decide +kernel
-- IceBoats.cell
def yD_25 : YD := (28, ([(1, 0, 0), (0, -2147483648, 2147483647), (0, -2147483648, 2147483647), (0, -2147483648, 2147483647), (0, -2147483648, 2147483647)], [], false, [(some (.inr (-1, [])), [(-1, [(1, -1)])]), (some (.inr (-1, [])), [(-64, [(1, 1)])]), (some (.inr (-1, [])), [(-1, [(2, -1)]), (0, [(1, 1)]), (63, [(1, -1)])]), (some (.inr (-1, [])), [(-5, [(2, 1)]), (0, [(1, 1)]), (63, [(1, -1)])]), (some (.inr (-1, [])), [(-1, [(3, 1)]), (-1, [(4, -1)]), (0, [(1, 1)]), (0, [(2, 1)]), (4, [(2, -1)]), (4, [(3, -1)]), (63, [(1, -1)])]), (some (.inr (-1, [])), [(-10, [(4, 1)]), (-1, [(3, 1)]), (0, [(1, 1)]), (0, [(2, 1)]), (4, [(2, -1)]), (4, [(3, -1)]), (63, [(1, -1)])]), (some (.inr (1, [])), [(-1, [(3, 1)]), (0, [(1, 1)]), (0, [(2, 1)]), (0, [(4, 1)]), (4, [(2, -1)]), (4, [(3, -1)]), (9, [(4, -1)]), (63, [(1, -1)])]), (some (.inr (-1, [])), [(-5, [(3, 1)]), (0, [(1, 1)]), (0, [(2, 1)]), (4, [(2, -1)]), (63, [(1, -1)])]), (some (.inr (-1, [])), [(0, [(1, 1)]), (0, [(2, 1)]), (0, [(3, -1)]), (4, [(2, -1)]), (63, [(1, -1)])])]), [], 400)
def yD25 : List YD := yD_25 :: yD24
theorem yk_25 : ychk yKD (yct yCT0 yD24) xMT xFT yEX xm28 yD_25.2.1 yD_25.2.2.1 400 = true := by decide +kernel
-- IceBoats$Sea.tellOf
def yD_26 : YD := (33, ([(1, 5, 0), (0, 0, 63), (0, 0, 4)], [], true, [(some (.inl (0, -2147483648, 2147483647)), [(-4, [(2, 1)])]), (some (.inl (0, -2147483648, 2147483647)), [(-3, [(2, 1)]), (3, [(2, -1)])]), (some (.inl (0, 1, 4)), [(-2, [(2, 1)]), (2, [(2, -1)])]), (some (.inl (0, 0, 4)), [(-1, [(2, 1)]), (1, [(2, -1)])]), (some (.inr (1, [])), [(0, [(2, -1)])]), (some (.inr (0, [])), [(0, [(2, -1)])])]), [], 400)
def yD26 : List YD := yD_26 :: yD25
theorem yk_26 : ychk yKD (yct yCT0 yD25) xMT xFT yEX xm33 yD_26.2.1 yD_26.2.2.1 400 = true := by decide +kernel
-- IceBoats.sea
def yD_27 : YD := (32, ([(1, 0, 0), (0, -2147483648, 2147483647), (0, -2147483648, 2147483647)], [], false, [(some (.inr (-1, [])), [(-1, [(1, -1)])]), (some (.inr (-1, [])), [(-64, [(1, 1)])]), (some (.inr (-1, [])), [(-5, [(2, 1)]), (0, [(1, 1)]), (63, [(1, -1)])]), (some (.inr (1, [])), [(0, [(1, 1)]), (0, [(2, -1)]), (0, [(2, 1)]), (63, [(1, -1)])]), (some (.inr (1, [])), [(-1, [(2, 1)]), (0, [(1, 1)]), (1, [(2, -1)]), (63, [(1, -1)])]), (some (.inr (1, [])), [(-2, [(2, 1)]), (0, [(1, 1)]), (2, [(2, -1)]), (63, [(1, -1)])]), (some (.inr (1, [])), [(-3, [(2, 1)]), (0, [(1, 1)]), (3, [(2, -1)]), (63, [(1, -1)])]), (some (.inr (1, [])), [(-4, [(2, 1)]), (0, [(1, 1)]), (4, [(2, -1)]), (63, [(1, -1)])]), (some (.inr (-1, [])), [(-1, [(2, -1)]), (0, [(1, 1)]), (63, [(1, -1)])])]), [], 400)
def yD27 : List YD := yD_27 :: yD26
theorem yk_27 : ychk yKD (yct yCT0 yD26) xMT xFT yEX xm32 yD_27.2.1 yD_27.2.2.1 400 = true := by decide +kernel
-- IceBoats.chart
def yD_28 : YD := (34, ([(1, 0, 0), (0, -2147483648, 2147483647), (0, -2147483648, 2147483647)], [], false, [(some (.inr (-1, [])), [(-1, [(1, -1)])]), (some (.inr (-1, [])), [(-64, [(1, 1)])]), (some (.inr (-1, [])), [(-1, [(2, -1)]), (0, [(1, 1)]), (8, [(2, 1)]), (63, [(1, -1)])]), (some (.inr (-1, [])), [(-10, [(2, 1)]), (0, [(1, 1)]), (63, [(1, -1)])]), (some (.inr (1, [])), [(0, [(1, 1)]), (0, [(2, 1)]), (9, [(2, -1)]), (63, [(1, -1)])]), (some (.inr (-1, [])), [(-10, [(2, -1)]), (0, [(1, 1)]), (63, [(1, -1)])]), (some (.inr (1, [])), [(-9, [(2, -1)]), (0, [(1, 1)]), (9, [(2, 1)]), (63, [(1, -1)])])]), [], 400)
def yD28 : List YD := yD_28 :: yD27
theorem yk_28 : ychk yKD (yct yCT0 yD27) xMT xFT yEX xm34 yD_28.2.1 yD_28.2.2.1 400 = true := by decide +kernel
-- IceBoats.hole
def yD_29 : YD := (35, ([(1, 0, 0), (0, -2147483648, 2147483647)], [], false, [(some (.inr (-1, [])), [(-1, [(1, -1)])]), (some (.inr (-1, [])), [(-64, [(1, 1)])]), (some (.inr (-4, [])), [(0, [(1, 1)]), (63, [(1, -1)])]), (some (.inl (0, 0, 63)), [(0, [(1, 1)]), (63, [(1, -1)])])]), [], 400)
def yD29 : List YD := yD_29 :: yD28
theorem yk_29 : ychk yKD (yct yCT0 yD28) xMT xFT yEX xm35 yD_29.2.1 yD_29.2.2.1 400 = true := by decide +kernel
-- IceBoats.seed
def yD_30 : YD := (36, ([(1, 0, 0), (0, -2147483648, 2147483647)], [], false, [(some (.inr (1, [])), [])]), [], 400)
def yD30 : List YD := yD_30 :: yD29
theorem yk_30 : ychk yKD (yct yCT0 yD29) xMT xFT yEX xm36 yD_30.2.1 yD_30.2.2.1 400 = true := by decide +kernel
-- IceBoats.isBoat
def yD_31 : YD := (39, ([(0, -2147483648, 2147483647)], [], true, [(some (.inr (1, [])), [(0, [(0, 1)]), (5, [(0, -1)])]), (some (.inr (0, [])), [(-6, [(0, 1)])]), (some (.inr (0, [])), [(-1, [(0, -1)])])]), [], 400)
def yD31 : List YD := yD_31 :: yD30
theorem yk_31 : ychk yKD (yct yCT0 yD30) xMT xFT yEX xm39 yD_31.2.1 yD_31.2.2.1 400 = true := by decide +kernel
-- IceBoats.boatAt
def yD_32 : YD := (38, ([(1, 0, 0), (0, -2147483648, 2147483647)], [], true, [(some (.inl (3, 0, 0)), [(-1, [(1, -1)])]), (some (.inl (3, 0, 0)), [(-6, [(1, 1)])]), (some (.inl (1, 14, 0)), [(0, [(1, 1)]), (5, [(1, -1)])])]), [], 400)
def yD32 : List YD := yD_32 :: yD31
theorem yk_32 : ychk yKD (yct yCT0 yD31) xMT xFT yEX xm38 yD_32.2.1 yD_32.2.2.1 400 = true := by decide +kernel
-- IceBoats$Boat.letDown
def yD_33 : YD := (40, ([(1, 14, 0), (0, 0, 3), (0, 0, 63), (0, 0, 1000), (0, 0, 999)], [], false, [(none, [])]), [], 400)
def yD33 : List YD := yD_33 :: yD32
theorem yk_33 : ychk yKD (yct yCT0 yD32) xMT xFT yEX xm40 yD_33.2.1 yD_33.2.2.1 400 = true := by decide +kernel
-- IceBoats.boat
def yD_34 : YD := (37, ([(1, 0, 0), (0, -2147483648, 2147483647), (0, -2147483648, 2147483647), (0, -2147483648, 2147483647), (0, -2147483648, 2147483647)], [], false, [(some (.inr (-1, [])), [(-1, [(3, -1)]), (0, [(1, 1)]), (0, [(2, 1)]), (3, [(2, -1)]), (5, [(1, -1)])]), (some (.inr (-1, [])), [(-64, [(3, 1)]), (0, [(1, 1)]), (0, [(2, 1)]), (3, [(2, -1)]), (5, [(1, -1)])]), (some (.inr (-1, [])), [(-1001, [(4, 1)]), (0, [(1, 1)]), (0, [(2, 1)]), (0, [(3, 1)]), (3, [(2, -1)]), (5, [(1, -1)]), (63, [(3, -1)])]), (some (.inr (-4, [])), [(0, [(1, 1)]), (0, [(2, 1)]), (0, [(3, 1)]), (0, [(4, 1)]), (3, [(2, -1)]), (5, [(1, -1)]), (63, [(3, -1)]), (1000, [(4, -1)])]), (some (.inr (1, [])), [(0, [(1, 1)]), (0, [(2, 1)]), (0, [(3, 1)]), (0, [(4, 1)]), (3, [(2, -1)]), (5, [(1, -1)]), (63, [(3, -1)]), (1000, [(4, -1)])]), (some (.inr (-1, [])), [(-1, [(4, -1)]), (0, [(1, 1)]), (0, [(2, 1)]), (0, [(3, 1)]), (3, [(2, -1)]), (5, [(1, -1)]), (63, [(3, -1)])]), (some (.inr (-1, [])), [(-4, [(2, 1)]), (0, [(1, 1)]), (5, [(1, -1)])]), (some (.inr (-1, [])), [(-1, [(2, -1)]), (0, [(1, 1)]), (5, [(1, -1)])]), (some (.inr (-1, [])), [(-6, [(1, 1)])]), (some (.inr (-1, [])), [(-1, [(1, -1)])])]), [], 400)
def yD34 : List YD := yD_34 :: yD33
theorem yk_34 : ychk yKD (yct yCT0 yD33) xMT xFT yEX xm37 yD_34.2.1 yD_34.2.2.1 400 = true := by decide +kernel
-- IceBoats.looksHeldBy
def yD_35 : YD := (44, ([(1, 0, 0), (0, -2147483648, 2147483647)], [], true, [(some (.inl (0, -2147483648, 2147483647)), [])]), [(4, [(0, 1, (1, 0, 0)), (1, 1, (0, -2147483648, 2147483647)), (2, 1, (0, -2147483648, 2147483647)), (3, 1, (0, 0, 40))], [], [], (81, [(3, -2)]))], 400)
def yD35 : List YD := yD_35 :: yD34
theorem yk_35 : ychk yKD (yct yCT0 yD34) xMT xFT yEX xm44 yD_35.2.1 yD_35.2.2.1 400 = true := by decide +kernel
-- java/lang/Long.bitCount
def yD_36 : YD := (43, ([(2, 0, 0)], [], true, [(some (.inl (0, 0, 127)), [])]), [], 400)
def yD36 : List YD := yD_36 :: yD35
theorem yk_36 : ychk yKD (yct yCT0 yD35) xMT xFT yEX xm43 yD_36.2.1 yD_36.2.2.1 400 = true := by decide +kernel
-- IceBoats.tellOfBoat
def yD_37 : YD := (42, ([(1, 0, 0), (0, -2147483648, 2147483647), (1, 14, 0), (0, -2147483648, 2147483647)], [(2, 6), (2, 3), (2, 2), (2, 1)], true, [(some (.inr (0, [(4, 1)])), [(-5, [(3, 1)])]), (some (.inr (0, [(4, 1)])), [(-1, [(3, -1)])]), (some (.inl (0, -2147483648, 2147483647)), [(-4, [(3, 1)]), (4, [(3, -1)])]), (some (.inl (0, 0, 127)), [(-3, [(3, 1)]), (3, [(3, -1)])]), (some (.inr (0, [(5, 1)])), [(-2, [(3, 1)]), (2, [(3, -1)])]), (some (.inr (0, [(6, 1)])), [(-1, [(3, 1)]), (1, [(3, -1)])]), (some (.inr (0, [(7, 1)])), [(0, [(3, -1)]), (0, [(3, 1)])])]), [], 400)
def yD37 : List YD := yD_37 :: yD36
theorem yk_37 : ychk yKD (yct yCT0 yD36) xMT xFT yEX xm42 yD_37.2.1 yD_37.2.2.1 400 = true := by decide +kernel
-- IceBoats.told
def yD_38 : YD := (41, ([(1, 0, 0), (0, -2147483648, 2147483647), (0, -2147483648, 2147483647)], [], false, [(some (.inr (-1, [])), [(-6, [(2, 1)]), (0, [(1, 1)]), (5, [(1, -1)])]), (some (.inr (1, [])), [(0, [(1, 1)]), (0, [(2, -1)]), (0, [(2, 1)]), (5, [(1, -1)])]), (some (.inr (1, [])), [(-1, [(2, 1)]), (0, [(1, 1)]), (1, [(2, -1)]), (5, [(1, -1)])]), (some (.inr (1, [])), [(-2, [(2, 1)]), (0, [(1, 1)]), (2, [(2, -1)]), (5, [(1, -1)])]), (some (.inr (1, [])), [(-3, [(2, 1)]), (0, [(1, 1)]), (3, [(2, -1)]), (5, [(1, -1)])]), (some (.inr (1, [])), [(-4, [(2, 1)]), (0, [(1, 1)]), (4, [(2, -1)]), (5, [(1, -1)])]), (some (.inr (1, [])), [(-5, [(2, 1)]), (0, [(1, 1)]), (5, [(1, -1)]), (5, [(2, -1)])]), (some (.inr (-1, [])), [(-1, [(2, -1)]), (0, [(1, 1)]), (5, [(1, -1)])]), (some (.inr (-1, [])), [(-6, [(1, 1)])]), (some (.inr (-1, [])), [(-1, [(1, -1)])])]), [], 400)
def yD38 : List YD := yD_38 :: yD37
theorem yk_38 : ychk yKD (yct yCT0 yD37) xMT xFT yEX xm41 yD_38.2.1 yD_38.2.2.1 400 = true := by decide +kernel
-- IceBoats.looksOnlyHeldBy
def yD_39 : YD := (46, ([(1, 0, 0), (0, -2147483648, 2147483647)], [], true, [(some (.inl (0, -2147483648, 2147483647)), [])]), [(4, [(0, 1, (1, 0, 0)), (1, 1, (0, -2147483648, 2147483647)), (2, 1, (0, -2147483648, 2147483647)), (3, 1, (0, 0, 40))], [], [], (81, [(3, -2)]))], 400)
def yD39 : List YD := yD_39 :: yD38
theorem yk_39 : ychk yKD (yct yCT0 yD38) xMT xFT yEX xm46 yD_39.2.1 yD_39.2.2.1 400 = true := by decide +kernel
-- IceBoats.mark
def yD_40 : YD := (45, ([(1, 0, 0), (0, -2147483648, 2147483647), (0, -2147483648, 2147483647)], [], false, [(some (.inr (-1, [])), [(-7, [(2, 1)]), (0, [(1, 1)]), (5, [(1, -1)])]), (some (.inr (-3, [])), [(-1, [(2, 1)]), (0, [(1, 1)]), (3, [(2, -1)]), (5, [(1, -1)])]), (some (.inr (-3, [])), [(-1, [(2, 1)]), (0, [(1, 1)]), (5, [(1, -1)]), (5, [(2, -1)])]), (some (.inl (0, -2147483648, 2147483647)), [(-4, [(2, 1)]), (0, [(1, 1)]), (4, [(2, -1)]), (5, [(1, -1)])]), (some (.inl (0, -2147483648, 2147483647)), [(-3, [(2, 1)]), (0, [(1, 1)]), (3, [(2, -1)]), (5, [(1, -1)])]), (some (.inl (0, -2147483648, 2147483647)), [(-2, [(2, 1)]), (0, [(1, 1)]), (2, [(2, -1)]), (5, [(1, -1)])]), (some (.inl (0, -2147483648, 2147483647)), [(-1, [(2, 1)]), (0, [(1, 1)]), (1, [(2, -1)]), (5, [(1, -1)])]), (some (.inr (-3, [])), [(-1, [(2, 1)]), (0, [(1, 1)]), (5, [(1, -1)]), (6, [(2, -1)])]), (some (.inl (0, -2147483648, 2147483647)), [(-6, [(2, 1)]), (0, [(1, 1)]), (5, [(1, -1)]), (6, [(2, -1)])]), (some (.inl (0, -2147483648, 2147483647)), [(-5, [(2, 1)]), (0, [(1, 1)]), (5, [(1, -1)]), (5, [(2, -1)])]), (some (.inr (-1, [])), [(0, [(1, 1)]), (0, [(2, -1)]), (5, [(1, -1)])]), (some (.inr (-1, [])), [(-6, [(1, 1)])]), (some (.inr (-1, [])), [(-1, [(1, -1)])])]), [], 400)
def yD40 : List YD := yD_40 :: yD39
theorem yk_40 : ychk yKD (yct yCT0 yD39) xMT xFT yEX xm45 yD_40.2.1 yD_40.2.2.1 400 = true := by decide +kernel
-- IceBoats.tellSet
def yD_41 : YD := (48, ([(1, 0, 0), (2, 0, 0)], [], false, [(some (.inl (0, 0, 127)), [])]), [], 400)
def yD41 : List YD := yD_41 :: yD40
theorem yk_41 : ychk yKD (yct yCT0 yD40) xMT xFT yEX xm48 yD_41.2.1 yD_41.2.2.1 400 = true := by decide +kernel
-- IceBoats.could
def yD_42 : YD := (47, ([(1, 0, 0), (0, -2147483648, 2147483647)], [], false, [(some (.inl (0, 0, 127)), [(0, [(1, 1)]), (5, [(1, -1)])]), (some (.inr (-1, [])), [(-6, [(1, 1)])]), (some (.inr (-1, [])), [(-1, [(1, -1)])])]), [], 400)
def yD42 : List YD := yD_42 :: yD41
theorem yk_42 : ychk yKD (yct yCT0 yD41) xMT xFT yEX xm47 yD_42.2.1 yD_42.2.2.1 400 = true := by decide +kernel
-- IceBoats$Boat.isAble
def yD_43 : YD := (50, ([(1, 14, 0)], [(0, 1)], true, [(some (.inr (1, [])), [(3, [(1, -1)])]), (some (.inr (0, [])), [(-4, [(1, 1)])])]), [], 400)
def yD43 : List YD := yD_43 :: yD42
theorem yk_43 : ychk yKD (yct yCT0 yD42) xMT xFT yEX xm50 yD_43.2.1 yD_43.2.2.1 400 = true := by decide +kernel
-- IceBoats.go
def yD_44 : YD := (49, ([(1, 0, 0), (0, -2147483648, 2147483647), (0, -2147483648, 2147483647)], [], false, [(some (.inr (-1, [])), [(-1, [(2, -1)]), (0, [(1, 1)]), (5, [(1, -1)])]), (some (.inr (-1, [])), [(-5, [(2, 1)]), (0, [(1, 1)]), (5, [(1, -1)])]), (some (.inr (-4, [])), [(0, [(1, 1)]), (0, [(2, 1)]), (4, [(2, -1)]), (5, [(1, -1)])]), (some (.inr (1, [])), [(0, [(1, 1)]), (0, [(2, 1)]), (4, [(2, -1)]), (5, [(1, -1)])]), (some (.inr (-1, [])), [(-6, [(1, 1)])]), (some (.inr (-1, [])), [(-1, [(1, -1)])])]), [], 400)
def yD44 : List YD := yD_44 :: yD43
theorem yk_44 : ychk yKD (yct yCT0 yD43) xMT xFT yEX xm49 yD_44.2.1 yD_44.2.2.1 400 = true := by decide +kernel
-- IceBoats$Sea.leadsTo
def yD_45 : YD := (53, ([(1, 5, 0), (0, 0, 63), (0, 0, 0)], [], true, [(some (.inr (0, [(1, 1)])), []), (some (.inl (0, 0, 63)), []), (some (.inr (0, [(1, 1)])), [(-1, [(1, 1)]), (63, [(1, -1)])]), (some (.inr (0, [(1, 1)])), [(0, [(1, 1)]), (7, [(1, -1)])])]), [], 400)
def yD45 : List YD := yD_45 :: yD44
theorem yk_45 : ychk yKD (yct yCT0 yD44) xMT xFT yEX xm53 yD_45.2.1 yD_45.2.2.1 400 = true := by decide +kernel
-- IceBoats.lotCarries
def yD_46 : YD := (54, ([(1, 0, 0)], [], false, [(some (.inr (1, [])), []), (some (.inr (0, [])), [])]), [], 400)
def yD46 : List YD := yD_46 :: yD45
theorem yk_46 : ychk yKD (yct yCT0 yD45) xMT xFT yEX xm54 yD_46.2.1 yD_46.2.2.1 400 = true := by decide +kernel
-- IceBoats$Sea.leadsTo
def yD_47 : YD := (53, ([(1, 5, 0), (0, 0, 0), (0, 0, 4)], [], true, [(some (.inr (0, [])), []), (some (.inl (0, 0, 9)), [])]), [], 400)
def yD47 : List YD := yD_47 :: yD46
theorem yk_47 : ychk yKD (yct yCT0 yD46) xMT xFT yEX xm53 yD_47.2.1 yD_47.2.2.1 400 = true := by decide +kernel
-- IceBoats$Sea.carriedFrom
def yD_48 : YD := (55, ([(1, 5, 0), (0, 0, 0)], [], true, [(some (.inl (0, 0, 9)), []), (some (.inr (0, [])), [])]), [], 400)
def yD48 : List YD := yD_48 :: yD47
theorem yk_48 : ychk yKD (yct yCT0 yD47) xMT xFT yEX xm55 yD_48.2.1 yD_48.2.2.1 400 = true := by decide +kernel
-- IceBoats$Sea.leadsTo
def yD_49 : YD := (53, ([(1, 5, 0), (0, 0, 63), (0, 0, 4)], [], true, [(some (.inr (0, [(1, 1)])), []), (some (.inl (0, 0, 63)), []), (some (.inr (0, [(1, 1)])), [(-1, [(1, 1)]), (63, [(1, -1)])]), (some (.inr (0, [(1, 1)])), [(0, [(1, 1)]), (7, [(1, -1)])])]), [], 400)
def yD49 : List YD := yD_49 :: yD48
theorem yk_49 : ychk yKD (yct yCT0 yD48) xMT xFT yEX xm53 yD_49.2.1 yD_49.2.2.1 400 = true := by decide +kernel
-- IceBoats$Sea.carriedFrom
def yD_50 : YD := (55, ([(1, 5, 0), (0, 0, 63)], [], true, [(some (.inr (0, [(1, 1)])), [(7, [(1, -1)])]), (some (.inr (0, [(1, 1)])), [(-1, [(1, 1)])]), (some (.inl (0, 0, 63)), []), (some (.inr (0, [(1, 1)])), [])]), [], 400)
def yD50 : List YD := yD_50 :: yD49
theorem yk_50 : ychk yKD (yct yCT0 yD49) xMT xFT yEX xm55 yD_50.2.1 yD_50.2.2.1 400 = true := by decide +kernel
-- IceBoats$Sea.couldBehind
def yD_51 : YD := (56, ([(1, 5, 0), (2, 0, 0), (0, 0, 0)], [], true, [(some (.inl (2, 0, 0)), [])]), [(6, [(0, 1, (1, 5, 0)), (1, 1, (2, 0, 0)), (3, 1, (0, 0, 0)), (4, 1, (2, 0, 0)), (6, 1, (0, 0, 64))], [], [], (129, [(4, -2)]))], 400)
def yD51 : List YD := yD_51 :: yD50
theorem yk_51 : ychk yKD (yct yCT0 yD50) xMT xFT yEX xm56 yD_51.2.1 yD_51.2.2.1 400 = true := by decide +kernel
-- IceBoats$Sea.couldBehind
def yD_52 : YD := (56, ([(1, 5, 0), (2, 0, 0), (0, 1, 4)], [], true, [(some (.inl (2, 0, 0)), [])]), [(6, [(0, 1, (1, 5, 0)), (1, 1, (2, 0, 0)), (3, 1, (0, 1, 4)), (4, 1, (2, 0, 0)), (6, 1, (0, 0, 64))], [], [], (129, [(4, -2)]))], 400)
def yD52 : List YD := yD_52 :: yD51
theorem yk_52 : ychk yKD (yct yCT0 yD51) xMT xFT yEX xm56 yD_52.2.1 yD_52.2.2.1 400 = true := by decide +kernel
-- IceBoats.moveBoat
def yD_53 : YD := (52, ([(1, 0, 0), (1, 14, 0)], [], false, [(none, [])]), [], 400)
def yD53 : List YD := yD_53 :: yD52
theorem yk_53 : ychk yKD (yct yCT0 yD52) xMT xFT yEX xm52 yD_53.2.1 yD_53.2.2.1 400 = true := by decide +kernel
-- IceBoats$Word.comesAt
def yD_54 : YD := (58, ([(1, 17, 0), (0, 0, 0), (0, 0, 999)], [], true, [(some (.inr (1, [])), []), (some (.inr (0, [])), [])]), [], 400)
def yD54 : List YD := yD_54 :: yD53
theorem yk_54 : ychk yKD (yct yCT0 yD53) xMT xFT yEX xm58 yD_54.2.1 yD_54.2.2.1 400 = true := by decide +kernel
-- IceBoats.leastCell
def yD_55 : YD := (68, ([(2, 0, 0)], [], true, [(some (.inr (0, [])), []), (some (.inl (0, 0, 127)), [])]), [], 400)
def yD55 : List YD := yD_55 :: yD54
theorem yk_55 : ychk yKD (yct yCT0 yD54) xMT xFT yEX xm68 yD_55.2.1 yD_55.2.2.1 400 = true := by decide +kernel
-- IceBoats.stepsBetween
def yD_56 : YD := (70, ([(0, -2147483648, 2147483647), (0, -2147483648, 2147483647)], [], true, [(some (.inl (0, -2147483648, 2147483647)), [])]), [], 400)
def yD56 : List YD := yD_56 :: yD55
theorem yk_56 : ychk yKD (yct yCT0 yD55) xMT xFT yEX xm70 yD_56.2.1 yD_56.2.2.1 400 = true := by decide +kernel
-- IceBoats$Sea.leadsTo
def yD_57 : YD := (53, ([(1, 5, 0), (0, -2147483648, 2147483647), (0, 1, 1)], [], true, [(some (.inr (0, [(1, 1)])), []), (some (.inl (0, 0, 63)), [])]), [], 400)
def yD57 : List YD := yD_57 :: yD56
theorem yk_57 : ychk yKD (yct yCT0 yD56) xMT xFT yEX xm53 yD_57.2.1 yD_57.2.2.1 400 = true := by decide +kernel
-- IceBoats$Sea.leadsTo
def yD_58 : YD := (53, ([(1, 5, 0), (0, -2147483648, 2147483647), (0, 1, 2)], [], true, [(some (.inr (0, [(1, 1)])), []), (some (.inl (0, 0, 63)), [])]), [], 400)
def yD58 : List YD := yD_58 :: yD57
theorem yk_58 : ychk yKD (yct yCT0 yD57) xMT xFT yEX xm53 yD_58.2.1 yD_58.2.2.1 400 = true := by decide +kernel
-- IceBoats$Sea.leadsTo
def yD_59 : YD := (53, ([(1, 5, 0), (0, -2147483648, 2147483647), (0, 1, 3)], [], true, [(some (.inr (0, [(1, 1)])), []), (some (.inl (0, 0, 63)), [])]), [], 400)
def yD59 : List YD := yD_59 :: yD58
theorem yk_59 : ychk yKD (yct yCT0 yD58) xMT xFT yEX xm53 yD_59.2.1 yD_59.2.2.1 400 = true := by decide +kernel
-- IceBoats$Sea.leadsTo
def yD_60 : YD := (53, ([(1, 5, 0), (0, -2147483648, 2147483647), (0, 1, 4)], [], true, [(some (.inr (0, [(1, 1)])), []), (some (.inl (0, 0, 63)), [])]), [], 400)
def yD60 : List YD := yD_60 :: yD59
theorem yk_60 : ychk yKD (yct yCT0 yD59) xMT xFT yEX xm53 yD_60.2.1 yD_60.2.2.1 400 = true := by decide +kernel
-- IceBoats$Sea.wayNearer
def yD_61 : YD := (69, ([(1, 5, 0), (0, -2147483648, 2147483647), (0, -2147483648, 2147483647)], [], true, [(some (.inl (0, 0, 4)), [])]), [(9, [(0, 1, (1, 5, 0)), (1, 1, (0, -2147483648, 2147483647)), (2, 1, (0, -2147483648, 2147483647)), (3, 1, (0, -2147483648, 2147483647)), (4, 1, (0, 1, 5))], [], [], (11, [(4, -2)]))], 400)
def yD61 : List YD := yD_61 :: yD60
theorem yk_61 : ychk yKD (yct yCT0 yD60) xMT xFT yEX xm69 yD_61.2.1 yD_61.2.2.1 400 = true := by decide +kernel
-- IceBoats.lookAt
def yD_62 : YD := (67, ([(1, 0, 0), (0, -2147483648, 2147483647)], [(0, 11)], true, [(some (.inl (1, 21, 0)), [(-1, [(1, -1), (2, 1)]), (-1, [(2, 1)]), (0, [(1, 1)]), (39, [(1, -1)])]), (some (.inl (3, 0, 0)), [(0, [(1, 1)]), (0, [(1, 1), (2, -1)])]), (some (.inl (3, 0, 0)), [(-1, [(1, -1)])])]), [], 400)
def yD62 : List YD := yD_62 :: yD61
theorem yk_62 : ychk yKD (yct yCT0 yD61) xMT xFT yEX xm67 yD_62.2.1 yD_62.2.2.1 400 = true := by decide +kernel
-- IceBoats.holdLook
def yD_63 : YD := (66, ([(1, 0, 0), (0, -2147483648, 2147483647), (0, -2147483648, 2147483647)], [], false, [(none, [(-1, [(2, -1)])]), (none, [(0, [(2, 1)])]), (none, [(0, [(2, 1)]), (39, [(2, -1)])])]), [], 400)
def yD63 : List YD := yD_63 :: yD62
theorem yk_63 : ychk yKD (yct yCT0 yD62) xMT xFT yEX xm66 yD_63.2.1 yD_63.2.2.1 400 = true := by decide +kernel
-- IceBoats$Wave.beginIn
def yD_64 : YD := (62, ([(1, 11, 0), (0, -2147483648, 2147483647)], [], false, [(none, [])]), [], 400)
def yD64 : List YD := yD_64 :: yD63
theorem yk_64 : ychk yKD (yct yCT0 yD63) xMT xFT yEX xm62 yD_64.2.1 yD_64.2.2.1 400 = true := by decide +kernel
-- IceBoats$Wave.besides
def yD_65 : YD := (64, ([(2, 0, 0)], [], true, [(some (.inl (2, 0, 0)), [])]), [], 400)
def yD65 : List YD := yD_65 :: yD64
theorem yk_65 : ychk yKD (yct yCT0 yD64) xMT xFT yEX xm64 yD_65.2.1 yD_65.2.2.1 400 = true := by decide +kernel
-- IceBoats$Wave.spread
def yD_66 : YD := (63, ([(1, 11, 0), (1, 5, 0)], [], false, [(none, [])]), [], 400)
def yD66 : List YD := yD_66 :: yD65
theorem yk_66 : ychk yKD (yct yCT0 yD65) xMT xFT yEX xm63 yD_66.2.1 yD_66.2.2.1 400 = true := by decide +kernel
-- IceBoats$Boat.keepCould
def yD_67 : YD := (65, ([(1, 14, 0), (2, 0, 0)], [], false, [(none, [])]), [], 400)
def yD67 : List YD := yD_67 :: yD66
theorem yk_67 : ychk yKD (yct yCT0 yD66) xMT xFT yEX xm65 yD_67.2.1 yD_67.2.2.1 400 = true := by decide +kernel
-- IceBoats.takeIn
def yD_68 : YD := (60, ([(1, 0, 0), (1, 17, 0), (0, -2147483648, 2147483647), (1, 14, 0)], [], false, [(none, [])]), [], 400)
def yD68 : List YD := yD_68 :: yD67
theorem yk_68 : ychk yKD (yct yCT0 yD67) xMT xFT yEX xm60 yD_68.2.1 yD_68.2.2.1 400 = true := by decide +kernel
-- IceBoats.loseMetWords
def yD_69 : YD := (59, ([(1, 0, 0), (0, 0, 0)], [], false, [(none, [])]), [(2, [(0, 1, (1, 0, 0)), (1, 1, (0, 0, 0)), (2, 1, (0, 0, 40))], [], [], (81, [(2, -2)]))], 400)
def yD69 : List YD := yD_69 :: yD68
theorem yk_69 : ychk yKD (yct yCT0 yD68) xMT xFT yEX xm59 yD_69.2.1 yD_69.2.2.1 400 = true := by decide +kernel
-- IceBoats.hearWhatComes
def yD_70 : YD := (57, ([(1, 0, 0), (0, 0, 0)], [], false, [(some (.inr (0, [])), []), (some (.inr (1, [])), [])]), [(7, [(0, 1, (1, 0, 0)), (1, 1, (0, 0, 0)), (2, 1, (0, -2147483648, 2147483647)), (3, 1, (1, 17, 1)), (4, 1, (0, 0, 40))], [], [], (81, [(4, -2)]))], 400)
def yD70 : List YD := yD_70 :: yD69
theorem yk_70 : ychk yKD (yct yCT0 yD69) xMT xFT yEX xm57 yD_70.2.1 yD_70.2.2.1 400 = true := by decide +kernel
-- IceBoats$Word.comesAt
def yD_71 : YD := (58, ([(1, 17, 0), (0, 0, 1), (0, 0, 999)], [], true, [(some (.inr (1, [])), []), (some (.inr (0, [])), [])]), [], 400)
def yD71 : List YD := yD_71 :: yD70
theorem yk_71 : ychk yKD (yct yCT0 yD70) xMT xFT yEX xm58 yD_71.2.1 yD_71.2.2.1 400 = true := by decide +kernel
-- IceBoats.loseMetWords
def yD_72 : YD := (59, ([(1, 0, 0), (0, 0, 1)], [], false, [(none, [])]), [(2, [(0, 1, (1, 0, 0)), (1, 1, (0, 0, 1)), (2, 1, (0, 0, 40))], [], [], (81, [(2, -2)]))], 400)
def yD72 : List YD := yD_72 :: yD71
theorem yk_72 : ychk yKD (yct yCT0 yD71) xMT xFT yEX xm59 yD_72.2.1 yD_72.2.2.1 400 = true := by decide +kernel
-- IceBoats.hearWhatComes
def yD_73 : YD := (57, ([(1, 0, 0), (0, 0, 1)], [], false, [(some (.inr (0, [])), []), (some (.inr (1, [])), [])]), [(7, [(0, 1, (1, 0, 0)), (1, 1, (0, 0, 1)), (2, 1, (0, -2147483648, 2147483647)), (3, 1, (1, 17, 1)), (4, 1, (0, 0, 40))], [], [], (81, [(4, -2)]))], 400)
def yD73 : List YD := yD_73 :: yD72
theorem yk_73 : ychk yKD (yct yCT0 yD72) xMT xFT yEX xm57 yD_73.2.1 yD_73.2.2.1 400 = true := by decide +kernel
-- IceBoats$Word.comesAt
def yD_74 : YD := (58, ([(1, 17, 0), (0, 0, 2), (0, 0, 999)], [], true, [(some (.inr (1, [])), []), (some (.inr (0, [])), [])]), [], 400)
def yD74 : List YD := yD_74 :: yD73
theorem yk_74 : ychk yKD (yct yCT0 yD73) xMT xFT yEX xm58 yD_74.2.1 yD_74.2.2.1 400 = true := by decide +kernel
-- IceBoats.loseMetWords
def yD_75 : YD := (59, ([(1, 0, 0), (0, 0, 2)], [], false, [(none, [])]), [(2, [(0, 1, (1, 0, 0)), (1, 1, (0, 0, 2)), (2, 1, (0, 0, 40))], [], [], (81, [(2, -2)]))], 400)
def yD75 : List YD := yD_75 :: yD74
theorem yk_75 : ychk yKD (yct yCT0 yD74) xMT xFT yEX xm59 yD_75.2.1 yD_75.2.2.1 400 = true := by decide +kernel
-- IceBoats.hearWhatComes
def yD_76 : YD := (57, ([(1, 0, 0), (0, 0, 2)], [], false, [(some (.inr (0, [])), []), (some (.inr (1, [])), [])]), [(7, [(0, 1, (1, 0, 0)), (1, 1, (0, 0, 2)), (2, 1, (0, -2147483648, 2147483647)), (3, 1, (1, 17, 1)), (4, 1, (0, 0, 40))], [], [], (81, [(4, -2)]))], 400)
def yD76 : List YD := yD_76 :: yD75
theorem yk_76 : ychk yKD (yct yCT0 yD75) xMT xFT yEX xm57 yD_76.2.1 yD_76.2.2.1 400 = true := by decide +kernel
-- IceBoats$Word.comesAt
def yD_77 : YD := (58, ([(1, 17, 0), (0, 0, 3), (0, 0, 999)], [], true, [(some (.inr (1, [])), []), (some (.inr (0, [])), [])]), [], 400)
def yD77 : List YD := yD_77 :: yD76
theorem yk_77 : ychk yKD (yct yCT0 yD76) xMT xFT yEX xm58 yD_77.2.1 yD_77.2.2.1 400 = true := by decide +kernel
-- IceBoats.loseMetWords
def yD_78 : YD := (59, ([(1, 0, 0), (0, 0, 3)], [], false, [(none, [])]), [(2, [(0, 1, (1, 0, 0)), (1, 1, (0, 0, 3)), (2, 1, (0, 0, 40))], [], [], (81, [(2, -2)]))], 400)
def yD78 : List YD := yD_78 :: yD77
theorem yk_78 : ychk yKD (yct yCT0 yD77) xMT xFT yEX xm59 yD_78.2.1 yD_78.2.2.1 400 = true := by decide +kernel
-- IceBoats.hearWhatComes
def yD_79 : YD := (57, ([(1, 0, 0), (0, 0, 3)], [], false, [(some (.inr (0, [])), []), (some (.inr (1, [])), [])]), [(7, [(0, 1, (1, 0, 0)), (1, 1, (0, 0, 3)), (2, 1, (0, -2147483648, 2147483647)), (3, 1, (1, 17, 1)), (4, 1, (0, 0, 40))], [], [], (81, [(4, -2)]))], 400)
def yD79 : List YD := yD_79 :: yD78
theorem yk_79 : ychk yKD (yct yCT0 yD78) xMT xFT yEX xm57 yD_79.2.1 yD_79.2.2.1 400 = true := by decide +kernel
-- IceBoats$Word.comesAt
def yD_80 : YD := (58, ([(1, 17, 0), (0, 0, 4), (0, 0, 999)], [], true, [(some (.inr (1, [])), []), (some (.inr (0, [])), [])]), [], 400)
def yD80 : List YD := yD_80 :: yD79
theorem yk_80 : ychk yKD (yct yCT0 yD79) xMT xFT yEX xm58 yD_80.2.1 yD_80.2.2.1 400 = true := by decide +kernel
-- IceBoats.loseMetWords
def yD_81 : YD := (59, ([(1, 0, 0), (0, 0, 4)], [], false, [(none, [])]), [(2, [(0, 1, (1, 0, 0)), (1, 1, (0, 0, 4)), (2, 1, (0, 0, 40))], [], [], (81, [(2, -2)]))], 400)
def yD81 : List YD := yD_81 :: yD80
theorem yk_81 : ychk yKD (yct yCT0 yD80) xMT xFT yEX xm59 yD_81.2.1 yD_81.2.2.1 400 = true := by decide +kernel
-- IceBoats.hearWhatComes
def yD_82 : YD := (57, ([(1, 0, 0), (0, 0, 4)], [], false, [(some (.inr (0, [])), []), (some (.inr (1, [])), [])]), [(7, [(0, 1, (1, 0, 0)), (1, 1, (0, 0, 4)), (2, 1, (0, -2147483648, 2147483647)), (3, 1, (1, 17, 1)), (4, 1, (0, 0, 40))], [], [], (81, [(4, -2)]))], 400)
def yD82 : List YD := yD_82 :: yD81
theorem yk_82 : ychk yKD (yct yCT0 yD81) xMT xFT yEX xm57 yD_82.2.1 yD_82.2.2.1 400 = true := by decide +kernel
-- IceBoats$Word.comesAt
def yD_83 : YD := (58, ([(1, 17, 0), (0, 0, 5), (0, 0, 999)], [], true, [(some (.inr (1, [])), []), (some (.inr (0, [])), [])]), [], 400)
def yD83 : List YD := yD_83 :: yD82
theorem yk_83 : ychk yKD (yct yCT0 yD82) xMT xFT yEX xm58 yD_83.2.1 yD_83.2.2.1 400 = true := by decide +kernel
-- IceBoats.loseMetWords
def yD_84 : YD := (59, ([(1, 0, 0), (0, 0, 5)], [], false, [(none, [])]), [(2, [(0, 1, (1, 0, 0)), (1, 1, (0, 0, 5)), (2, 1, (0, 0, 40))], [], [], (81, [(2, -2)]))], 400)
def yD84 : List YD := yD_84 :: yD83
theorem yk_84 : ychk yKD (yct yCT0 yD83) xMT xFT yEX xm59 yD_84.2.1 yD_84.2.2.1 400 = true := by decide +kernel
-- IceBoats.hearWhatComes
def yD_85 : YD := (57, ([(1, 0, 0), (0, 0, 5)], [], false, [(some (.inr (0, [])), []), (some (.inr (1, [])), [])]), [(7, [(0, 1, (1, 0, 0)), (1, 1, (0, 0, 5)), (2, 1, (0, -2147483648, 2147483647)), (3, 1, (1, 17, 1)), (4, 1, (0, 0, 40))], [], [], (81, [(4, -2)]))], 400)
def yD85 : List YD := yD_85 :: yD84
theorem yk_85 : ychk yKD (yct yCT0 yD84) xMT xFT yEX xm57 yD_85.2.1 yD_85.2.2.1 400 = true := by decide +kernel
-- IceBoats$Boat.failIfDue
def yD_86 : YD := (71, ([(1, 14, 0), (0, -2147483648, 2147483647)], [], false, [(none, [])]), [], 400)
def yD86 : List YD := yD_86 :: yD85
theorem yk_86 : ychk yKD (yct yCT0 yD85) xMT xFT yEX xm71 yD_86.2.1 yD_86.2.2.1 400 = true := by decide +kernel
-- IceBoats.tick
def yD_87 : YD := (51, ([(1, 0, 0)], [], false, [(some (.inl (0, -2147483648, 2147483647)), [])]), [(25, [(0, 1, (1, 0, 0)), (1, 1, (0, 0, 6))], [], [], (41, [(1, -2)])), (63, [(0, 1, (1, 0, 0)), (1, 1, (0, -2147483648, 2147483647)), (2, 1, (0, 0, 6))], [], [], (27, [(2, -2)])), (85, [(0, 1, (1, 0, 0)), (1, 1, (0, -2147483648, 2147483647)), (2, 1, (0, 0, 6))], [], [], (13, [(2, -2)]))], 400)
def yD87 : List YD := yD_87 :: yD86
theorem yk_87 : ychk yKD (yct yCT0 yD86) xMT xFT yEX xm51 yD_87.2.1 yD_87.2.2.1 400 = true := by decide +kernel
-- IceBoats$Look.tellOf
def yD_88 : YD := (75, ([(1, 21, 0), (0, -2147483648, 2147483647)], [(0, 2), (0, 3), (0, 1), (0, 0)], true, [(some (.inr (0, [(2, 1)])), [(-3, [(1, 1)])]), (some (.inr (0, [(2, 1)])), [(-1, [(1, -1)])]), (some (.inr (0, [(3, 1)])), [(-2, [(1, 1)]), (2, [(1, -1)])]), (some (.inr (0, [(4, 1)])), [(-1, [(1, 1)]), (1, [(1, -1)])]), (some (.inr (0, [(5, 1)])), [(0, [(1, -1)]), (0, [(1, 1)])])]), [], 400)
def yD88 : List YD := yD_88 :: yD87
theorem yk_88 : ychk yKD (yct yCT0 yD87) xMT xFT yEX xm75 yD_88.2.1 yD_88.2.2.1 400 = true := by decide +kernel
-- IceBoats.looked
def yD_89 : YD := (74, ([(1, 0, 0), (0, -2147483648, 2147483647), (0, -2147483648, 2147483647)], [], false, [(some (.inr (-1, [])), [(-1, [(1, -1)])]), (some (.inr (-1, [])), [(0, [(1, 1)])]), (some (.inr (-1, [])), [(-4, [(2, 1)]), (0, [(1, 1)]), (39, [(1, -1)])]), (some (.inr (1, [])), [(0, [(1, 1)]), (0, [(2, -1)]), (0, [(2, 1)]), (39, [(1, -1)])]), (some (.inr (1, [])), [(-1, [(2, 1)]), (0, [(1, 1)]), (1, [(2, -1)]), (39, [(1, -1)])]), (some (.inr (1, [])), [(-2, [(2, 1)]), (0, [(1, 1)]), (2, [(2, -1)]), (39, [(1, -1)])]), (some (.inr (1, [])), [(-3, [(2, 1)]), (0, [(1, 1)]), (3, [(2, -1)]), (39, [(1, -1)])]), (some (.inr (-1, [])), [(-1, [(2, -1)]), (0, [(1, 1)]), (39, [(1, -1)])])]), [], 400)
def yD89 : List YD := yD_89 :: yD88
theorem yk_89 : ychk yKD (yct yCT0 yD88) xMT xFT yEX xm74 yD_89.2.1 yD_89.2.2.1 400 = true := by decide +kernel
-- IceBoats$Sea.cellsChartedAs
def yD_90 : YD := (77, ([(1, 5, 0), (0, -2147483648, 2147483647)], [], true, [(some (.inl (2, 0, 0)), [])]), [(5, [(0, 1, (1, 5, 0)), (1, 1, (0, -2147483648, 2147483647)), (2, 1, (2, 0, 0)), (4, 1, (0, 0, 64))], [], [], (129, [(3, -2)]))], 400)
def yD90 : List YD := yD_90 :: yD89
theorem yk_90 : ychk yKD (yct yCT0 yD89) xMT xFT yEX xm77 yD_90.2.1 yD_90.2.2.1 400 = true := by decide +kernel
-- IceBoats.match
def yD_91 : YD := (76, ([(1, 0, 0), (0, -2147483648, 2147483647)], [], false, [(some (.inr (-4, [])), [(0, [(1, 1)]), (5, [(1, -1)])]), (some (.inl (0, 0, 127)), [(0, [(1, 1)]), (5, [(1, -1)])]), (some (.inr (-1, [])), [(-6, [(1, 1)])]), (some (.inr (-1, [])), [(-1, [(1, -1)])])]), [], 400)
def yD91 : List YD := yD_91 :: yD90
theorem yk_91 : ychk yKD (yct yCT0 yD90) xMT xFT yEX xm76 yD_91.2.1 yD_91.2.2.1 400 = true := by decide +kernel
-- IceBoats.home
def yD_92 : YD := (78, ([(1, 0, 0), (0, -2147483648, 2147483647)], [], false, [(some (.inr (-4, [])), [(0, [(1, 1)]), (5, [(1, -1)])]), (some (.inr (1, [])), [(0, [(1, 1)]), (5, [(1, -1)])]), (some (.inr (-1, [])), [(-6, [(1, 1)])]), (some (.inr (-1, [])), [(-1, [(1, -1)])])]), [], 400)
def yD92 : List YD := yD_92 :: yD91
theorem yk_92 : ychk yKD (yct yCT0 yD91) xMT xFT yEX xm78 yD_92.2.1 yD_92.2.2.1 400 = true := by decide +kernel
-- IceBoats.isOpenCell
def yD_93 : YD := (80, ([(1, 0, 0), (0, -2147483648, 2147483647)], [], true, [(some (.inr (0, [])), [(-1, [(1, -1)])]), (some (.inr (0, [])), [(-64, [(1, 1)])]), (some (.inr (0, [])), [(0, [(1, 1)]), (63, [(1, -1)])]), (some (.inr (1, [])), [(0, [(1, 1)]), (63, [(1, -1)])])]), [], 400)
def yD93 : List YD := yD_93 :: yD92
theorem yk_93 : ychk yKD (yct yCT0 yD92) xMT xFT yEX xm80 yD_93.2.1 yD_93.2.2.1 400 = true := by decide +kernel
-- IceBoats.time
def yD_94 : YD := (79, ([(1, 0, 0), (0, -2147483648, 2147483647), (0, -2147483648, 2147483647)], [], false, [(some (.inr (-3, [])), [(0, [(1, 1)]), (0, [(2, 1)]), (63, [(1, -1)]), (63, [(2, -1)])]), (some (.inl (0, -8, 2147483647)), [(0, [(1, 1)]), (0, [(2, 1)]), (63, [(1, -1)]), (63, [(2, -1)])]), (some (.inl (0, -2147483648, -10)), [(0, [(1, 1)]), (0, [(2, 1)]), (63, [(1, -1)]), (63, [(2, -1)])]), (some (.inr (-1, [])), [(0, [(1, 1)]), (0, [(2, 1)]), (63, [(1, -1)]), (63, [(2, -1)])]), (some (.inr (-1, [])), [(-64, [(2, 1)]), (0, [(1, 1)]), (63, [(1, -1)])]), (some (.inr (-1, [])), [(-1, [(2, -1)]), (0, [(1, 1)]), (63, [(1, -1)])]), (some (.inr (-1, [])), [(0, [(1, 1)]), (63, [(1, -1)])]), (some (.inr (-1, [])), [(-64, [(1, 1)])]), (some (.inr (-1, [])), [(-1, [(1, -1)])])]), [], 400)
def yD94 : List YD := yD_94 :: yD93
theorem yk_94 : ychk yKD (yct yCT0 yD93) xMT xFT yEX xm79 yD_94.2.1 yD_94.2.2.1 400 = true := by decide +kernel
-- IceBoats.fitsWord
def yD_95 : YD := (83, ([(1, 0, 0), (0, -2147483648, 2147483647), (0, -2147483648, 2147483647)], [(0, 11)], true, [(some (.inr (1, [])), [(-5, [(1, 1)])]), (some (.inr (1, [])), [(1, [(1, -1)])]), (some (.inr (0, [])), [(-4, [(1, 1)]), (-1, [(2, -1)]), (4, [(1, -1)])]), (some (.inr (0, [])), [(-64, [(2, 1)]), (-4, [(1, 1)]), (4, [(1, -1)])]), (some (.inr (1, [])), [(-4, [(1, 1)]), (0, [(2, 1)]), (4, [(1, -1)]), (63, [(2, -1)])]), (some (.inr (0, [])), [(-3, [(1, 1)]), (-1, [(2, -1)]), (3, [(1, -1)])]), (some (.inr (0, [])), [(-5, [(2, 1)]), (-3, [(1, 1)]), (3, [(1, -1)])]), (some (.inr (1, [])), [(-3, [(1, 1)]), (0, [(2, 1)]), (3, [(1, -1)]), (4, [(2, -1)])]), (some (.inr (0, [])), [(-2, [(1, 1)]), (-1, [(2, -1)]), (2, [(1, -1)])]), (some (.inr (0, [])), [(-2, [(1, 1)]), (0, [(2, 1)]), (0, [(2, 1), (3, -1)]), (2, [(1, -1)])]), (some (.inr (1, [])), [(-2, [(1, 1)]), (-1, [(2, -1), (3, 1)]), (-1, [(3, 1)]), (0, [(2, 1)]), (2, [(1, -1)]), (39, [(2, -1)])])]), [], 400)
def yD95 : List YD := yD_95 :: yD94
theorem yk_95 : ychk yKD (yct yCT0 yD94) xMT xFT yEX xm83 yD_95.2.1 yD_95.2.2.1 400 = true := by decide +kernel
-- IceBoats.holdsLook
def yD_96 : YD := (84, ([(1, 0, 0), (0, -2147483648, 2147483647), (0, -2147483648, 2147483647)], [(0, 11)], true, [(some (.inr (0, [])), [(-1, [(2, -1)])]), (some (.inr (0, [])), [(0, [(2, 1)]), (0, [(2, 1), (3, -1)])]), (some (.inr (0, [])), [(-1, [(2, -1), (3, 1)]), (-1, [(3, 1)]), (0, [(2, 1)]), (39, [(2, -1)])]), (some (.inr (1, [])), [(-1, [(2, -1), (3, 1)]), (-1, [(3, 1)]), (0, [(2, 1)]), (39, [(2, -1)])])]), [], 400)
def yD96 : List YD := yD_96 :: yD95
theorem yk_96 : ychk yKD (yct yCT0 yD95) xMT xFT yEX xm84 yD_96.2.1 yD_96.2.2.1 400 = true := by decide +kernel
-- IceBoats.wordAt
def yD_97 : YD := (88, ([(1, 0, 0), (0, -2147483648, 2147483647)], [(0, 10)], true, [(some (.inl (1, 17, 0)), [(-1, [(1, -1), (2, 1)]), (-1, [(2, 1)]), (0, [(1, 1)]), (39, [(1, -1)])]), (some (.inl (3, 0, 0)), [(0, [(1, 1)]), (0, [(1, 1), (2, -1)])]), (some (.inl (3, 0, 0)), [(-1, [(1, -1)])])]), [], 400)
def yD97 : List YD := yD_97 :: yD96
theorem yk_97 : ychk yKD (yct yCT0 yD96) xMT xFT yEX xm88 yD_97.2.1 yD_97.2.2.1 400 = true := by decide +kernel
-- IceBoats$Word.tellOf
def yD_98 : YD := (89, ([(1, 17, 0), (0, -2147483648, 2147483647)], [(0, 3), (0, 2), (0, 1), (0, 0)], true, [(some (.inr (0, [(2, 1)])), [(-3, [(1, 1)])]), (some (.inr (0, [(2, 1)])), [(-1, [(1, -1)])]), (some (.inr (0, [(3, 1)])), [(-2, [(1, 1)]), (2, [(1, -1)])]), (some (.inr (0, [(4, 1)])), [(-1, [(1, 1)]), (1, [(1, -1)])]), (some (.inr (0, [(5, 1)])), [(0, [(1, -1)]), (0, [(1, 1)])])]), [], 400)
def yD98 : List YD := yD_98 :: yD97
theorem yk_98 : ychk yKD (yct yCT0 yD97) xMT xFT yEX xm89 yD_98.2.1 yD_98.2.2.1 400 = true := by decide +kernel
-- IceBoats.word
def yD_99 : YD := (87, ([(1, 0, 0), (0, -2147483648, 2147483647), (0, -2147483648, 2147483647)], [], false, [(some (.inr (-1, [])), [(-1, [(1, -1)])]), (some (.inr (-1, [])), [(0, [(1, 1)])]), (some (.inr (-1, [])), [(-4, [(2, 1)]), (0, [(1, 1)]), (39, [(1, -1)])]), (some (.inr (1, [])), [(0, [(1, 1)]), (0, [(2, -1)]), (0, [(2, 1)]), (39, [(1, -1)])]), (some (.inr (1, [])), [(-1, [(2, 1)]), (0, [(1, 1)]), (1, [(2, -1)]), (39, [(1, -1)])]), (some (.inr (1, [])), [(-2, [(2, 1)]), (0, [(1, 1)]), (2, [(2, -1)]), (39, [(1, -1)])]), (some (.inr (1, [])), [(-3, [(2, 1)]), (0, [(1, 1)]), (3, [(2, -1)]), (39, [(1, -1)])]), (some (.inr (-1, [])), [(-1, [(2, -1)]), (0, [(1, 1)]), (39, [(1, -1)])])]), [], 400)
def yD99 : List YD := yD_99 :: yD98
theorem yk_99 : ychk yKD (yct yCT0 yD98) xMT xFT yEX xm87 yD_99.2.1 yD_99.2.2.1 400 = true := by decide +kernel
-- IceBoats$Word.hearers
def yD_100 : YD := (92, ([(1, 17, 0)], [], true, [(some (.inl (0, -2147483648, 2147483647)), [])]), [(4, [(0, 1, (1, 17, 0)), (1, 1, (0, -2147483648, 2147483647)), (2, 1, (0, 0, 6))], [], [], (13, [(2, -2)]))], 400)
def yD100 : List YD := yD_100 :: yD99
theorem yk_100 : ychk yKD (yct yCT0 yD99) xMT xFT yEX xm92 yD_100.2.1 yD_100.2.2.1 400 = true := by decide +kernel
-- IceBoats.iceOfLook
def yD_101 : YD := (91, ([(1, 0, 0), (0, -2147483648, 2147483647)], [(0, 11)], true, [(some (.inr (-9, [])), [(-1, [(1, -1)])]), (some (.inr (-9, [])), [(0, [(1, 1)]), (0, [(1, 1), (2, -1)])]), (some (.inl (0, -2147483648, 2147483647)), [(-1, [(1, -1), (2, 1)]), (-1, [(2, 1)]), (0, [(1, 1)]), (39, [(1, -1)])])]), [], 400)
def yD101 : List YD := yD_101 :: yD100
theorem yk_101 : ychk yKD (yct yCT0 yD100) xMT xFT yEX xm91 yD_101.2.1 yD_101.2.2.1 400 = true := by decide +kernel
-- IceBoats.tells
def yD_102 : YD := (90, ([(1, 0, 0), (0, -2147483648, 2147483647), (0, -2147483648, 2147483647)], [], false, [(some (.inl (0, -2147483648, 2147483647)), [])]), [], 400)
def yD102 : List YD := yD_102 :: yD101
theorem yk_102 : ychk yKD (yct yCT0 yD101) xMT xFT yEX xm90 yD_102.2.1 yD_102.2.2.1 400 = true := by decide +kernel
-- IceBoats.heard
def yD_103 : YD := (93, ([(1, 0, 0), (0, -2147483648, 2147483647), (0, -2147483648, 2147483647)], [(0, 10)], true, [(some (.inr (-1, [])), [(-1, [(1, -1)])]), (some (.inr (-1, [])), [(0, [(1, 1)]), (0, [(1, 1), (3, -1)])]), (some (.inr (-1, [])), [(-1, [(1, -1), (3, 1)]), (-1, [(2, -1)]), (-1, [(3, 1)]), (0, [(1, 1)]), (39, [(1, -1)])]), (some (.inr (-1, [])), [(-6, [(2, 1)]), (-1, [(1, -1), (3, 1)]), (-1, [(3, 1)]), (0, [(1, 1)]), (39, [(1, -1)])]), (some (.inl (0, -2147483648, 2147483647)), [(-1, [(1, -1), (3, 1)]), (-1, [(3, 1)]), (0, [(1, 1)]), (0, [(2, 1)]), (5, [(2, -1)]), (39, [(1, -1)])])]), [], 400)
def yD103 : List YD := yD_103 :: yD102
theorem yk_103 : ychk yKD (yct yCT0 yD102) xMT xFT yEX xm93 yD_103.2.1 yD_103.2.2.1 400 = true := by decide +kernel
-- IceBoats.isBoatOrNone
def yD_104 : YD := (95, ([(0, -2147483648, 2147483647)], [], true, [(some (.inr (0, [])), [(-1, [(0, -1)]), (8, [(0, 1)])]), (some (.inr (0, [])), [(-6, [(0, 1)])]), (some (.inr (1, [])), [(0, [(0, 1)]), (5, [(0, -1)])]), (some (.inr (0, [])), [(-10, [(0, -1)])]), (some (.inr (1, [])), [(-9, [(0, -1)]), (9, [(0, 1)])])]), [], 400)
def yD104 : List YD := yD_104 :: yD103
theorem yk_104 : ychk yKD (yct yCT0 yD103) xMT xFT yEX xm95 yD_104.2.1 yD_104.2.2.1 400 = true := by decide +kernel
-- IceBoats$Word.knownBy
def yD_105 : YD := (96, ([(1, 17, 0), (0, 0, 5)], [(0, 1), (0, 2)], true, [(some (.inr (0, [(3, 1)])), [(0, [(1, -1), (2, 1)]), (0, [(1, 1), (2, -1)])]), (some (.inl (0, 0, 2147483647)), [(-1, [(1, 1)]), (-1, [(1, 1), (2, -1)]), (4, [(2, -1)])]), (some (.inr (-9, [])), [(-1, [(1, 1)]), (-1, [(1, 1), (2, -1)]), (4, [(2, -1)])]), (some (.inl (0, 0, 2147483647)), [(-1, [(1, -1), (2, 1)]), (-1, [(2, 1)]), (4, [(1, -1)])]), (some (.inr (-9, [])), [(-1, [(1, -1), (2, 1)]), (-1, [(2, 1)]), (4, [(1, -1)])])]), [], 400)
def yD105 : List YD := yD_105 :: yD104
theorem yk_105 : ychk yKD (yct yCT0 yD104) xMT xFT yEX xm96 yD_105.2.1 yD_105.2.2.1 400 = true := by decide +kernel
-- IceBoats.firstHeardFrom
def yD_106 : YD := (98, ([(1, 0, 0), (0, 1, 5), (0, 0, 4), (0, -9, -1)], [], true, [(some (.inl (0, -9, 2147483647)), [])]), [(16, [(0, 1, (1, 0, 0)), (1, 1, (0, 1, 5)), (2, 1, (0, 0, 4)), (3, 1, (0, -8, -1)), (4, 1, (0, -9, 2147483647)), (5, 1, (0, 0, 40))], [], [], (81, [(5, -2)]))], 400)
def yD106 : List YD := yD_106 :: yD105
theorem yk_106 : ychk yKD (yct yCT0 yD105) xMT xFT yEX xm98 yD_106.2.1 yD_106.2.2.1 400 = true := by decide +kernel
-- IceBoats.firstHeardFrom
def yD_107 : YD := (98, ([(1, 0, 0), (0, 0, 3), (0, 1, 4), (0, -9, -1)], [], true, [(some (.inl (0, -9, 2147483647)), [])]), [(16, [(0, 1, (1, 0, 0)), (1, 1, (0, 0, 3)), (2, 1, (0, 1, 4)), (3, 1, (0, -8, -1)), (4, 1, (0, -9, 2147483647)), (5, 1, (0, 0, 40))], [], [], (81, [(5, -2)]))], 400)
def yD107 : List YD := yD_107 :: yD106
theorem yk_107 : ychk yKD (yct yCT0 yD106) xMT xFT yEX xm98 yD_107.2.1 yD_107.2.2.1 400 = true := by decide +kernel
-- IceBoats.firstHeardFrom
def yD_108 : YD := (98, ([(1, 0, 0), (0, 1, 5), (0, 0, 4), (0, 0, 2147483647)], [], true, [(some (.inl (0, -9, 2147483647)), [])]), [(16, [(0, 1, (1, 0, 0)), (1, 1, (0, 1, 5)), (2, 1, (0, 0, 4)), (3, 1, (0, 0, 2147483647)), (4, 1, (0, -9, 2147483647)), (5, 1, (0, 0, 40))], [], [], (81, [(5, -2)]))], 400)
def yD108 : List YD := yD_108 :: yD107
theorem yk_108 : ychk yKD (yct yCT0 yD107) xMT xFT yEX xm98 yD_108.2.1 yD_108.2.2.1 400 = true := by decide +kernel
-- IceBoats.firstHeardFrom
def yD_109 : YD := (98, ([(1, 0, 0), (0, 0, 3), (0, 1, 4), (0, 0, 2147483647)], [], true, [(some (.inl (0, -9, 2147483647)), [])]), [(16, [(0, 1, (1, 0, 0)), (1, 1, (0, 0, 3)), (2, 1, (0, 1, 4)), (3, 1, (0, 0, 2147483647)), (4, 1, (0, -9, 2147483647)), (5, 1, (0, 0, 40))], [], [], (81, [(5, -2)]))], 400)
def yD109 : List YD := yD_109 :: yD108
theorem yk_109 : ychk yKD (yct yCT0 yD108) xMT xFT yEX xm98 yD_109.2.1 yD_109.2.2.1 400 = true := by decide +kernel
-- IceBoats.firstHeardFrom
def yD_110 : YD := (98, ([(1, 0, 0), (0, 0, 4), (0, 1, 5), (0, -9, -1)], [], true, [(some (.inl (0, -9, 2147483647)), [])]), [(16, [(0, 1, (1, 0, 0)), (1, 1, (0, 0, 4)), (2, 1, (0, 1, 5)), (3, 1, (0, -8, -1)), (4, 1, (0, -9, 2147483647)), (5, 1, (0, 0, 40))], [], [], (81, [(5, -2)]))], 400)
def yD110 : List YD := yD_110 :: yD109
theorem yk_110 : ychk yKD (yct yCT0 yD109) xMT xFT yEX xm98 yD_110.2.1 yD_110.2.2.1 400 = true := by decide +kernel
-- IceBoats.firstHeardFrom
def yD_111 : YD := (98, ([(1, 0, 0), (0, 0, 4), (0, 1, 5), (0, 0, 2147483647)], [], true, [(some (.inl (0, -9, 2147483647)), [])]), [(16, [(0, 1, (1, 0, 0)), (1, 1, (0, 0, 4)), (2, 1, (0, 1, 5)), (3, 1, (0, 0, 2147483647)), (4, 1, (0, -9, 2147483647)), (5, 1, (0, 0, 40))], [], [], (81, [(5, -2)]))], 400)
def yD111 : List YD := yD_111 :: yD110
theorem yk_111 : ychk yKD (yct yCT0 yD110) xMT xFT yEX xm98 yD_111.2.1 yD_111.2.2.1 400 = true := by decide +kernel
-- IceBoats.firstHeardFrom
def yD_112 : YD := (98, ([(1, 0, 0), (0, 1, 5), (0, 0, 4), (0, -2147483648, 2147483647)], [], true, [(some (.inl (0, -9, 2147483647)), [])]), [(16, [(0, 1, (1, 0, 0)), (1, 1, (0, 1, 5)), (2, 1, (0, 0, 4)), (3, 1, (0, -2147483648, 2147483647)), (4, 1, (0, -9, 2147483647)), (5, 1, (0, 0, 40))], [], [], (81, [(5, -2)]))], 400)
def yD112 : List YD := yD_112 :: yD111
theorem yk_112 : ychk yKD (yct yCT0 yD111) xMT xFT yEX xm98 yD_112.2.1 yD_112.2.2.1 400 = true := by decide +kernel
-- IceBoats.firstHeardFrom
def yD_113 : YD := (98, ([(1, 0, 0), (0, 0, 4), (0, 1, 5), (0, -2147483648, 2147483647)], [], true, [(some (.inl (0, -9, 2147483647)), [])]), [(16, [(0, 1, (1, 0, 0)), (1, 1, (0, 0, 4)), (2, 1, (0, 1, 5)), (3, 1, (0, -2147483648, 2147483647)), (4, 1, (0, -9, 2147483647)), (5, 1, (0, 0, 40))], [], [], (81, [(5, -2)]))], 400)
def yD113 : List YD := yD_113 :: yD112
theorem yk_113 : ychk yKD (yct yCT0 yD112) xMT xFT yEX xm98 yD_113.2.1 yD_113.2.2.1 400 = true := by decide +kernel
-- IceBoats.knownOf
def yD_114 : YD := (97, ([(1, 0, 0), (1, 17, 0), (0, 0, 5), (0, 0, 5)], [(1, 1), (1, 2)], true, [(some (.inr (-9, [])), [(-1, [(3, -1), (4, 1)]), (-1, [(4, 1)]), (0, [(2, -1), (3, 1)]), (0, [(2, 1), (3, -1)]), (4, [(2, -1)]), (4, [(3, -1)])]), (some (.inl (0, -9, 2147483647)), [(-1, [(2, 1)]), (-1, [(2, 1), (3, -1)]), (-1, [(3, -1), (4, 1)]), (-1, [(4, 1)]), (4, [(3, -1)])]), (some (.inl (0, -9, 2147483647)), [(-1, [(2, -1), (3, 1)]), (-1, [(3, -1), (4, 1)]), (-1, [(3, 1)]), (-1, [(4, 1)]), (3, [(2, -1)]), (4, [(3, -1)])]), (some (.inl (0, 0, 2147483647)), [(-1, [(3, -1), (4, 1)]), (-1, [(4, 1)]), (0, [(2, -1), (3, 1)]), (0, [(2, 1), (3, -1)]), (4, [(2, -1)]), (4, [(3, -1)])]), (some (.inr (-9, [])), [(-1, [(2, 1)]), (-1, [(3, 1)]), (-1, [(3, 1), (4, -1)]), (0, [(2, -1), (3, 1)]), (0, [(2, 1), (3, -1)]), (4, [(4, -1)])]), (some (.inl (0, -9, 2147483647)), [(-2, [(2, 1)]), (-1, [(2, 1), (3, -1)]), (-1, [(3, 1)]), (-1, [(3, 1), (4, -1)]), (4, [(3, -1)]), (4, [(4, -1)])]), (some (.inl (0, -9, 2147483647)), [(-1, [(2, -1), (3, 1)]), (-1, [(3, 1)]), (-1, [(3, 1), (4, -1)]), (4, [(2, -1)]), (4, [(4, -1)])]), (some (.inl (0, 0, 2147483647)), [(-1, [(2, 1)]), (-1, [(3, 1)]), (-1, [(3, 1), (4, -1)]), (0, [(2, -1), (3, 1)]), (0, [(2, 1), (3, -1)]), (4, [(4, -1)])]), (some (.inr (0, [(5, 1)])), [(0, [(2, -1), (3, 1)]), (0, [(2, 1), (3, -1)]), (0, [(3, -1), (4, 1)]), (0, [(3, 1), (4, -1)])]), (some (.inl (0, -9, 2147483647)), [(-1, [(2, 1)]), (-1, [(2, 1), (3, -1)]), (0, [(3, -1), (4, 1)]), (0, [(3, 1), (4, -1)]), (4, [(3, -1)])]), (some (.inl (0, -9, 2147483647)), [(-1, [(2, -1), (3, 1)]), (-1, [(3, 1)]), (0, [(3, -1), (4, 1)]), (0, [(3, 1), (4, -1)]), (4, [(2, -1)])])]), [], 400)
def yD114 : List YD := yD_114 :: yD113
theorem yk_114 : ychk yKD (yct yCT0 yD113) xMT xFT yEX xm97 yD_114.2.1 yD_114.2.2.1 400 = true := by decide +kernel
-- IceBoats.knownOfKnown
def yD_115 : YD := (99, ([(1, 0, 0), (1, 17, 0), (0, 0, 5), (0, 0, 5), (0, 0, 5)], [], true, [(some (.inl (0, -2147483648, 2147483647)), [])]), [], 400)
def yD115 : List YD := yD_115 :: yD114
theorem yk_115 : ychk yKD (yct yCT0 yD114) xMT xFT yEX xm99 yD_115.2.1 yD_115.2.2.1 400 = true := by decide +kernel
-- IceBoats.knows
def yD_116 : YD := (94, ([(1, 0, 0), (0, -2147483648, 2147483647), (0, -2147483648, 2147483647), (0, -2147483648, 2147483647), (0, -2147483648, 2147483647)], [], true, [(some (.inl (0, -2147483648, 2147483647)), [])]), [], 400)
def yD116 : List YD := yD_116 :: yD115
theorem yk_116 : ychk yKD (yct yCT0 yD115) xMT xFT yEX xm94 yD_116.2.1 yD_116.2.2.1 400 = true := by decide +kernel
-- IceBoats.laterOrNone
def yD_117 : YD := (102, ([(0, -2147483648, 2147483647), (0, -2147483648, 2147483647)], [], true, [(some (.inr (-9, [])), [(-9, [(1, -1)]), (8, [(0, 1)]), (9, [(1, 1)])]), (some (.inl (0, -8, 2147483647)), [(8, [(0, 1)]), (8, [(1, 1)])]), (some (.inl (0, -8, 2147483647)), [(-10, [(1, -1)]), (8, [(0, 1)])]), (some (.inr (-9, [])), [(-10, [(0, -1)]), (-9, [(1, -1)]), (9, [(1, 1)])]), (some (.inl (0, -8, 2147483647)), [(-10, [(0, -1)]), (8, [(1, 1)])]), (some (.inl (0, -2147483648, -10)), [(-10, [(0, -1)]), (-10, [(1, -1)])]), (some (.inr (-9, [])), [(-9, [(0, -1)]), (9, [(0, 1)])])]), [], 400)
def yD117 : List YD := yD_117 :: yD116
theorem yk_117 : ychk yKD (yct yCT0 yD116) xMT xFT yEX xm102 yD_117.2.1 yD_117.2.2.1 400 = true := by decide +kernel
-- IceBoats.knownOfAll
def yD_118 : YD := (101, ([(1, 0, 0), (1, 17, 0), (0, 0, 0), (0, 1, 63), (0, 1, 3)], [], true, [(some (.inl (0, -2147483648, 2147483647)), [])]), [(10, [(0, 1, (1, 0, 0)), (1, 1, (1, 17, 0)), (2, 1, (0, 0, 0)), (3, 1, (0, 1, 63)), (4, 1, (0, 1, 3)), (5, 1, (0, -2147483648, 2147483647)), (6, 1, (0, 0, 6))], [(1, 1, (0, 0, 5)), (1, 2, (0, -2147483648, 2147483647))], [], (87, [(6, -2)])), (64, [(0, 1, (1, 0, 0)), (1, 1, (1, 17, 0)), (2, 1, (0, 0, 0)), (3, 1, (0, 1, 63)), (4, 1, (0, 1, 3)), (5, 1, (0, -2147483648, 2147483647)), (6, 1, (0, 0, 36))], [(1, 1, (0, 0, 5)), (1, 2, (0, -2147483648, 2147483647))], [], (73, [(6, -2)]))], 400)
def yD118 : List YD := yD_118 :: yD117
theorem yk_118 : ychk yKD (yct yCT0 yD117) xMT xFT yEX xm101 yD_118.2.1 yD_118.2.2.1 400 = true := by decide +kernel
-- IceBoats.knownOfAll
def yD_119 : YD := (101, ([(1, 0, 0), (1, 17, 0), (0, 0, 1), (0, 1, 63), (0, 1, 3)], [], true, [(some (.inl (0, -2147483648, 2147483647)), [])]), [(10, [(0, 1, (1, 0, 0)), (1, 1, (1, 17, 0)), (2, 1, (0, 0, 1)), (3, 1, (0, 1, 63)), (4, 1, (0, 1, 3)), (5, 1, (0, -2147483648, 2147483647)), (6, 1, (0, 0, 6))], [(1, 1, (0, 0, 5)), (1, 2, (0, -2147483648, 2147483647))], [], (87, [(6, -2)])), (64, [(0, 1, (1, 0, 0)), (1, 1, (1, 17, 0)), (2, 1, (0, 0, 1)), (3, 1, (0, 1, 63)), (4, 1, (0, 1, 3)), (5, 1, (0, -2147483648, 2147483647)), (6, 1, (0, 0, 36))], [(1, 1, (0, 0, 5)), (1, 2, (0, -2147483648, 2147483647))], [], (73, [(6, -2)]))], 400)
def yD119 : List YD := yD_119 :: yD118
theorem yk_119 : ychk yKD (yct yCT0 yD118) xMT xFT yEX xm101 yD_119.2.1 yD_119.2.2.1 400 = true := by decide +kernel
-- IceBoats.knownOfAll
def yD_120 : YD := (101, ([(1, 0, 0), (1, 17, 0), (0, 0, 2), (0, 1, 63), (0, 1, 3)], [], true, [(some (.inl (0, -2147483648, 2147483647)), [])]), [(10, [(0, 1, (1, 0, 0)), (1, 1, (1, 17, 0)), (2, 1, (0, 0, 2)), (3, 1, (0, 1, 63)), (4, 1, (0, 1, 3)), (5, 1, (0, -2147483648, 2147483647)), (6, 1, (0, 0, 6))], [(1, 1, (0, 0, 5)), (1, 2, (0, -2147483648, 2147483647))], [], (87, [(6, -2)])), (64, [(0, 1, (1, 0, 0)), (1, 1, (1, 17, 0)), (2, 1, (0, 0, 2)), (3, 1, (0, 1, 63)), (4, 1, (0, 1, 3)), (5, 1, (0, -2147483648, 2147483647)), (6, 1, (0, 0, 36))], [(1, 1, (0, 0, 5)), (1, 2, (0, -2147483648, 2147483647))], [], (73, [(6, -2)]))], 400)
def yD120 : List YD := yD_120 :: yD119
theorem yk_120 : ychk yKD (yct yCT0 yD119) xMT xFT yEX xm101 yD_120.2.1 yD_120.2.2.1 400 = true := by decide +kernel
-- IceBoats.knownOfAll
def yD_121 : YD := (101, ([(1, 0, 0), (1, 17, 0), (0, 0, 3), (0, 1, 63), (0, 1, 3)], [], true, [(some (.inl (0, -2147483648, 2147483647)), [])]), [(10, [(0, 1, (1, 0, 0)), (1, 1, (1, 17, 0)), (2, 1, (0, 0, 3)), (3, 1, (0, 1, 63)), (4, 1, (0, 1, 3)), (5, 1, (0, -2147483648, 2147483647)), (6, 1, (0, 0, 6))], [(1, 1, (0, 0, 5)), (1, 2, (0, -2147483648, 2147483647))], [], (87, [(6, -2)])), (64, [(0, 1, (1, 0, 0)), (1, 1, (1, 17, 0)), (2, 1, (0, 0, 3)), (3, 1, (0, 1, 63)), (4, 1, (0, 1, 3)), (5, 1, (0, -2147483648, 2147483647)), (6, 1, (0, 0, 36))], [(1, 1, (0, 0, 5)), (1, 2, (0, -2147483648, 2147483647))], [], (73, [(6, -2)]))], 400)
def yD121 : List YD := yD_121 :: yD120
theorem yk_121 : ychk yKD (yct yCT0 yD120) xMT xFT yEX xm101 yD_121.2.1 yD_121.2.2.1 400 = true := by decide +kernel
-- IceBoats.knownOfAll
def yD_122 : YD := (101, ([(1, 0, 0), (1, 17, 0), (0, 0, 4), (0, 1, 63), (0, 1, 3)], [], true, [(some (.inl (0, -2147483648, 2147483647)), [])]), [(10, [(0, 1, (1, 0, 0)), (1, 1, (1, 17, 0)), (2, 1, (0, 0, 4)), (3, 1, (0, 1, 63)), (4, 1, (0, 1, 3)), (5, 1, (0, -2147483648, 2147483647)), (6, 1, (0, 0, 6))], [(1, 1, (0, 0, 5)), (1, 2, (0, -2147483648, 2147483647))], [], (87, [(6, -2)])), (64, [(0, 1, (1, 0, 0)), (1, 1, (1, 17, 0)), (2, 1, (0, 0, 4)), (3, 1, (0, 1, 63)), (4, 1, (0, 1, 3)), (5, 1, (0, -2147483648, 2147483647)), (6, 1, (0, 0, 36))], [(1, 1, (0, 0, 5)), (1, 2, (0, -2147483648, 2147483647))], [], (73, [(6, -2)]))], 400)
def yD122 : List YD := yD_122 :: yD121
theorem yk_122 : ychk yKD (yct yCT0 yD121) xMT xFT yEX xm101 yD_122.2.1 yD_122.2.2.1 400 = true := by decide +kernel
-- IceBoats.knownOfAll
def yD_123 : YD := (101, ([(1, 0, 0), (1, 17, 0), (0, 0, 5), (0, 1, 63), (0, 1, 3)], [], true, [(some (.inl (0, -2147483648, 2147483647)), [])]), [(10, [(0, 1, (1, 0, 0)), (1, 1, (1, 17, 0)), (2, 1, (0, 0, 5)), (3, 1, (0, 1, 63)), (4, 1, (0, 1, 3)), (5, 1, (0, -2147483648, 2147483647)), (6, 1, (0, 0, 6))], [(1, 1, (0, 0, 5)), (1, 2, (0, -2147483648, 2147483647))], [], (87, [(6, -2)])), (64, [(0, 1, (1, 0, 0)), (1, 1, (1, 17, 0)), (2, 1, (0, 0, 5)), (3, 1, (0, 1, 63)), (4, 1, (0, 1, 3)), (5, 1, (0, -2147483648, 2147483647)), (6, 1, (0, 0, 36))], [(1, 1, (0, 0, 5)), (1, 2, (0, -2147483648, 2147483647))], [], (73, [(6, -2)]))], 400)
def yD123 : List YD := yD_123 :: yD122
theorem yk_123 : ychk yKD (yct yCT0 yD122) xMT xFT yEX xm101 yD_123.2.1 yD_123.2.2.1 400 = true := by decide +kernel
-- IceBoats.allKnow
def yD_124 : YD := (100, ([(1, 0, 0), (0, -2147483648, 2147483647), (0, -2147483648, 2147483647), (0, -2147483648, 2147483647)], [], true, [(some (.inl (0, -9, 2147483647)), [])]), [(41, [(0, 1, (1, 0, 0)), (1, 1, (0, 0, 39)), (2, 1, (0, 1, 63)), (3, 1, (0, 1, 3)), (4, 1, (1, 17, 0)), (5, 1, (0, 0, 2147483647)), (6, 1, (0, 0, 6))], [(0, 10, (0, 1, 40))], [(-1, [(1, -1), (7, 1)])], (13, [(6, -2)]))], 400)
def yD124 : List YD := yD_124 :: yD123
theorem yk_124 : ychk yKD (yct yCT0 yD123) xMT xFT yEX xm100 yD_124.2.1 yD_124.2.2.1 400 = true := by decide +kernel
-- IceBoats$RuleReader.letterOf
def yD_125 : YD := (105, ([(0, -2147483648, 2147483647)], [], true, [(some (.inr (-9, [])), []), (some (.inr (0, [])), []), (some (.inr (1, [])), []), (some (.inr (2, [])), []), (some (.inr (3, [])), [])]), [], 400)
def yD125 : List YD := yD_125 :: yD124
theorem yk_125 : ychk yKD (yct yCT0 yD124) xMT xFT yEX xm105 yD_125.2.1 yD_125.2.2.1 400 = true := by decide +kernel
-- IceBoats$RuleReader.endOfDigits
def yD_126 : YD := (106, ([(1, 3, 0), (0, 1, 1)], [(0, 1)], true, [(some (.inr (4, [])), [(-5, [(2, 1)])]), (some (.inr (4, [])), [(-4, [(2, 1)]), (4, [(2, -1)])]), (some (.inr (3, [])), [(-4, [(2, 1)])]), (some (.inr (3, [])), [(-3, [(2, 1)]), (3, [(2, -1)])]), (some (.inr (2, [])), [(-3, [(2, 1)])]), (some (.inr (2, [])), [(-2, [(2, 1)]), (2, [(2, -1)])]), (some (.inr (1, [])), [(-2, [(2, 1)])]), (some (.inr (1, [])), [(1, [(2, -1)])])]), [], 400)
def yD126 : List YD := yD_126 :: yD125
theorem yk_126 : ychk yKD (yct yCT0 yD125) xMT xFT yEX xm106 yD_126.2.1 yD_126.2.2.1 400 = true := by decide +kernel
-- IceBoats$RuleReader.numberIn
def yD_127 : YD := (107, ([(1, 3, 0), (0, 1, 1), (0, 1, 2)], [], true, [(some (.inl (0, -2147483648, 2147483647)), [])]), [(5, [(0, 1, (1, 3, 0)), (1, 1, (0, 1, 1)), (2, 1, (0, 1, 2)), (3, 1, (0, -2147483648, 2147483647)), (4, 1, (0, 1, 2))], [], [], (5, [(4, -2)]))], 400)
def yD127 : List YD := yD_127 :: yD126
theorem yk_127 : ychk yKD (yct yCT0 yD126) xMT xFT yEX xm107 yD_127.2.1 yD_127.2.2.1 400 = true := by decide +kernel
-- IceBoats$RuleReader.numberIn
def yD_128 : YD := (107, ([(1, 3, 0), (0, 1, 1), (0, 1, 3)], [], true, [(some (.inl (0, -2147483648, 2147483647)), [])]), [(5, [(0, 1, (1, 3, 0)), (1, 1, (0, 1, 1)), (2, 1, (0, 1, 3)), (3, 1, (0, -2147483648, 2147483647)), (4, 1, (0, 1, 3))], [], [], (7, [(4, -2)]))], 400)
def yD128 : List YD := yD_128 :: yD127
theorem yk_128 : ychk yKD (yct yCT0 yD127) xMT xFT yEX xm107 yD_128.2.1 yD_128.2.2.1 400 = true := by decide +kernel
-- IceBoats$RuleReader.numberIn
def yD_129 : YD := (107, ([(1, 3, 0), (0, 1, 1), (0, 1, 4)], [], true, [(some (.inl (0, -2147483648, 2147483647)), [])]), [(5, [(0, 1, (1, 3, 0)), (1, 1, (0, 1, 1)), (2, 1, (0, 1, 4)), (3, 1, (0, -2147483648, 2147483647)), (4, 1, (0, 1, 4))], [], [], (9, [(4, -2)]))], 400)
def yD129 : List YD := yD_129 :: yD128
theorem yk_129 : ychk yKD (yct yCT0 yD128) xMT xFT yEX xm107 yD_129.2.1 yD_129.2.2.1 400 = true := by decide +kernel
-- IceBoats$RuleReader.endOfDigits
def yD_130 : YD := (106, ([(1, 3, 0), (0, 1, 5)], [(0, 1)], true, [(some (.inr (3, [(1, 1)])), [(-5, [(2, 1)]), (-4, [(1, -1), (2, 1)]), (-3, [(1, -1), (2, 1)]), (-2, [(1, -1), (2, 1)]), (-1, [(1, -1), (2, 1)])]), (some (.inr (3, [(1, 1)])), [(-4, [(2, 1)]), (-3, [(1, -1), (2, 1)]), (-2, [(1, -1), (2, 1)]), (-1, [(1, -1), (2, 1)]), (3, [(1, 1), (2, -1)]), (8, [(2, -1)])]), (some (.inr (2, [(1, 1)])), [(-4, [(2, 1)]), (-3, [(1, -1), (2, 1)]), (-2, [(1, -1), (2, 1)]), (-1, [(1, -1), (2, 1)])]), (some (.inr (2, [(1, 1)])), [(-3, [(2, 1)]), (-2, [(1, -1), (2, 1)]), (-1, [(1, -1), (2, 1)]), (2, [(1, 1), (2, -1)]), (7, [(2, -1)])]), (some (.inr (1, [(1, 1)])), [(-3, [(2, 1)]), (-2, [(1, -1), (2, 1)]), (-1, [(1, -1), (2, 1)])]), (some (.inr (1, [(1, 1)])), [(-2, [(2, 1)]), (-1, [(1, -1), (2, 1)]), (1, [(1, 1), (2, -1)]), (6, [(2, -1)])]), (some (.inr (0, [(1, 1)])), [(-2, [(2, 1)]), (-1, [(1, -1), (2, 1)])]), (some (.inr (0, [(1, 1)])), [(0, [(1, 1), (2, -1)]), (5, [(2, -1)])])]), [], 400)
def yD130 : List YD := yD_130 :: yD129
theorem yk_130 : ychk yKD (yct yCT0 yD129) xMT xFT yEX xm106 yD_130.2.1 yD_130.2.2.1 400 = true := by decide +kernel
-- IceBoats$RuleReader.numberIn
def yD_131 : YD := (107, ([(1, 3, 0), (0, 1, 5), (0, 1, 6)], [], true, [(some (.inl (0, -2147483648, 2147483647)), [])]), [(5, [(0, 1, (1, 3, 0)), (1, 1, (0, 1, 5)), (2, 1, (0, 1, 6)), (3, 1, (0, -2147483648, 2147483647)), (4, 1, (0, 1, 6))], [], [], (13, [(4, -2)]))], 400)
def yD131 : List YD := yD_131 :: yD130
theorem yk_131 : ychk yKD (yct yCT0 yD130) xMT xFT yEX xm107 yD_131.2.1 yD_131.2.2.1 400 = true := by decide +kernel
-- IceBoats$RuleReader.numberIn
def yD_132 : YD := (107, ([(1, 3, 0), (0, 1, 5), (0, 1, 7)], [], true, [(some (.inl (0, -2147483648, 2147483647)), [])]), [(5, [(0, 1, (1, 3, 0)), (1, 1, (0, 1, 5)), (2, 1, (0, 1, 7)), (3, 1, (0, -2147483648, 2147483647)), (4, 1, (0, 1, 7))], [], [], (15, [(4, -2)]))], 400)
def yD132 : List YD := yD_132 :: yD131
theorem yk_132 : ychk yKD (yct yCT0 yD131) xMT xFT yEX xm107 yD_132.2.1 yD_132.2.2.1 400 = true := by decide +kernel
-- IceBoats$RuleReader.numberIn
def yD_133 : YD := (107, ([(1, 3, 0), (0, 1, 5), (0, 1, 8)], [], true, [(some (.inl (0, -2147483648, 2147483647)), [])]), [(5, [(0, 1, (1, 3, 0)), (1, 1, (0, 1, 5)), (2, 1, (0, 1, 8)), (3, 1, (0, -2147483648, 2147483647)), (4, 1, (0, 1, 8))], [], [], (17, [(4, -2)]))], 400)
def yD133 : List YD := yD_133 :: yD132
theorem yk_133 : ychk yKD (yct yCT0 yD132) xMT xFT yEX xm107 yD_133.2.1 yD_133.2.2.1 400 = true := by decide +kernel
-- IceBoats$RuleReader.endOfDigits
def yD_134 : YD := (106, ([(1, 3, 0), (0, 1, 9)], [(0, 1)], true, [(some (.inr (3, [(1, 1)])), [(-5, [(2, 1)]), (-4, [(1, -1), (2, 1)]), (-3, [(1, -1), (2, 1)]), (-2, [(1, -1), (2, 1)]), (-1, [(1, -1), (2, 1)])]), (some (.inr (3, [(1, 1)])), [(-4, [(2, 1)]), (-3, [(1, -1), (2, 1)]), (-2, [(1, -1), (2, 1)]), (-1, [(1, -1), (2, 1)]), (3, [(1, 1), (2, -1)]), (12, [(2, -1)])]), (some (.inr (2, [(1, 1)])), [(-4, [(2, 1)]), (-3, [(1, -1), (2, 1)]), (-2, [(1, -1), (2, 1)]), (-1, [(1, -1), (2, 1)])]), (some (.inr (2, [(1, 1)])), [(-3, [(2, 1)]), (-2, [(1, -1), (2, 1)]), (-1, [(1, -1), (2, 1)]), (2, [(1, 1), (2, -1)]), (11, [(2, -1)])]), (some (.inr (1, [(1, 1)])), [(-3, [(2, 1)]), (-2, [(1, -1), (2, 1)]), (-1, [(1, -1), (2, 1)])]), (some (.inr (1, [(1, 1)])), [(-2, [(2, 1)]), (-1, [(1, -1), (2, 1)]), (1, [(1, 1), (2, -1)]), (10, [(2, -1)])]), (some (.inr (0, [(1, 1)])), [(-2, [(2, 1)]), (-1, [(1, -1), (2, 1)])]), (some (.inr (0, [(1, 1)])), [(0, [(1, 1), (2, -1)]), (9, [(2, -1)])])]), [], 400)
def yD134 : List YD := yD_134 :: yD133
theorem yk_134 : ychk yKD (yct yCT0 yD133) xMT xFT yEX xm106 yD_134.2.1 yD_134.2.2.1 400 = true := by decide +kernel
-- IceBoats$RuleReader.numberIn
def yD_135 : YD := (107, ([(1, 3, 0), (0, 1, 9), (0, 1, 10)], [], true, [(some (.inl (0, -2147483648, 2147483647)), [])]), [(5, [(0, 1, (1, 3, 0)), (1, 1, (0, 1, 9)), (2, 1, (0, 1, 10)), (3, 1, (0, -2147483648, 2147483647)), (4, 1, (0, 1, 10))], [], [], (21, [(4, -2)]))], 400)
def yD135 : List YD := yD_135 :: yD134
theorem yk_135 : ychk yKD (yct yCT0 yD134) xMT xFT yEX xm107 yD_135.2.1 yD_135.2.2.1 400 = true := by decide +kernel
-- IceBoats$RuleReader.numberIn
def yD_136 : YD := (107, ([(1, 3, 0), (0, 1, 9), (0, 1, 12)], [], true, [(some (.inl (0, -2147483648, 2147483647)), [])]), [(5, [(0, 1, (1, 3, 0)), (1, 1, (0, 1, 9)), (2, 1, (0, 1, 12)), (3, 1, (0, -2147483648, 2147483647)), (4, 1, (0, 1, 12))], [], [], (25, [(4, -2)]))], 400)
def yD136 : List YD := yD_136 :: yD135
theorem yk_136 : ychk yKD (yct yCT0 yD135) xMT xFT yEX xm107 yD_136.2.1 yD_136.2.2.1 400 = true := by decide +kernel
-- IceBoats$RuleReader.endOfDigits
def yD_137 : YD := (106, ([(1, 3, 0), (0, 1, 13)], [(0, 1)], true, [(some (.inr (3, [(1, 1)])), [(-5, [(2, 1)]), (-4, [(1, -1), (2, 1)]), (-3, [(1, -1), (2, 1)]), (-2, [(1, -1), (2, 1)]), (-1, [(1, -1), (2, 1)])]), (some (.inr (3, [(1, 1)])), [(-4, [(2, 1)]), (-3, [(1, -1), (2, 1)]), (-2, [(1, -1), (2, 1)]), (-1, [(1, -1), (2, 1)]), (3, [(1, 1), (2, -1)]), (16, [(2, -1)])]), (some (.inr (2, [(1, 1)])), [(-4, [(2, 1)]), (-3, [(1, -1), (2, 1)]), (-2, [(1, -1), (2, 1)]), (-1, [(1, -1), (2, 1)])]), (some (.inr (2, [(1, 1)])), [(-3, [(2, 1)]), (-2, [(1, -1), (2, 1)]), (-1, [(1, -1), (2, 1)]), (2, [(1, 1), (2, -1)]), (15, [(2, -1)])]), (some (.inr (1, [(1, 1)])), [(-3, [(2, 1)]), (-2, [(1, -1), (2, 1)]), (-1, [(1, -1), (2, 1)])]), (some (.inr (1, [(1, 1)])), [(-2, [(2, 1)]), (-1, [(1, -1), (2, 1)]), (1, [(1, 1), (2, -1)]), (14, [(2, -1)])]), (some (.inr (0, [(1, 1)])), [(-2, [(2, 1)]), (-1, [(1, -1), (2, 1)])]), (some (.inr (0, [(1, 1)])), [(0, [(1, 1), (2, -1)]), (13, [(2, -1)])])]), [], 400)
def yD137 : List YD := yD_137 :: yD136
theorem yk_137 : ychk yKD (yct yCT0 yD136) xMT xFT yEX xm106 yD_137.2.1 yD_137.2.2.1 400 = true := by decide +kernel
-- IceBoats$RuleReader.numberIn
def yD_138 : YD := (107, ([(1, 3, 0), (0, 1, 13), (0, 1, 14)], [], true, [(some (.inl (0, -2147483648, 2147483647)), [])]), [(5, [(0, 1, (1, 3, 0)), (1, 1, (0, 1, 13)), (2, 1, (0, 1, 14)), (3, 1, (0, -2147483648, 2147483647)), (4, 1, (0, 1, 14))], [], [], (29, [(4, -2)]))], 400)
def yD138 : List YD := yD_138 :: yD137
theorem yk_138 : ychk yKD (yct yCT0 yD137) xMT xFT yEX xm107 yD_138.2.1 yD_138.2.2.1 400 = true := by decide +kernel
-- IceBoats$RuleReader.numberIn
def yD_139 : YD := (107, ([(1, 3, 0), (0, 1, 13), (0, 1, 15)], [], true, [(some (.inl (0, -2147483648, 2147483647)), [])]), [(5, [(0, 1, (1, 3, 0)), (1, 1, (0, 1, 13)), (2, 1, (0, 1, 15)), (3, 1, (0, -2147483648, 2147483647)), (4, 1, (0, 1, 15))], [], [], (31, [(4, -2)]))], 400)
def yD139 : List YD := yD_139 :: yD138
theorem yk_139 : ychk yKD (yct yCT0 yD138) xMT xFT yEX xm107 yD_139.2.1 yD_139.2.2.1 400 = true := by decide +kernel
-- IceBoats$RuleReader.numberIn
def yD_140 : YD := (107, ([(1, 3, 0), (0, 1, 13), (0, 1, 16)], [], true, [(some (.inl (0, -2147483648, 2147483647)), [])]), [(5, [(0, 1, (1, 3, 0)), (1, 1, (0, 1, 13)), (2, 1, (0, 1, 16)), (3, 1, (0, -2147483648, 2147483647)), (4, 1, (0, 1, 16))], [], [], (33, [(4, -2)]))], 400)
def yD140 : List YD := yD_140 :: yD139
theorem yk_140 : ychk yKD (yct yCT0 yD139) xMT xFT yEX xm107 yD_140.2.1 yD_140.2.2.1 400 = true := by decide +kernel
-- IceBoats$RuleReader.endOfDigits
def yD_141 : YD := (106, ([(1, 3, 0), (0, 1, 20)], [(0, 1)], true, [(some (.inr (3, [(1, 1)])), [(-5, [(2, 1)]), (-4, [(1, -1), (2, 1)]), (-3, [(1, -1), (2, 1)]), (-2, [(1, -1), (2, 1)]), (-1, [(1, -1), (2, 1)])]), (some (.inr (3, [(1, 1)])), [(-4, [(2, 1)]), (-3, [(1, -1), (2, 1)]), (-2, [(1, -1), (2, 1)]), (-1, [(1, -1), (2, 1)]), (3, [(1, 1), (2, -1)]), (23, [(2, -1)])]), (some (.inr (2, [(1, 1)])), [(-4, [(2, 1)]), (-3, [(1, -1), (2, 1)]), (-2, [(1, -1), (2, 1)]), (-1, [(1, -1), (2, 1)])]), (some (.inr (2, [(1, 1)])), [(-3, [(2, 1)]), (-2, [(1, -1), (2, 1)]), (-1, [(1, -1), (2, 1)]), (2, [(1, 1), (2, -1)]), (22, [(2, -1)])]), (some (.inr (1, [(1, 1)])), [(-3, [(2, 1)]), (-2, [(1, -1), (2, 1)]), (-1, [(1, -1), (2, 1)])]), (some (.inr (1, [(1, 1)])), [(-2, [(2, 1)]), (-1, [(1, -1), (2, 1)]), (1, [(1, 1), (2, -1)]), (21, [(2, -1)])]), (some (.inr (0, [(1, 1)])), [(-2, [(2, 1)]), (-1, [(1, -1), (2, 1)])]), (some (.inr (0, [(1, 1)])), [(0, [(1, 1), (2, -1)]), (20, [(2, -1)])])]), [], 400)
def yD141 : List YD := yD_141 :: yD140
theorem yk_141 : ychk yKD (yct yCT0 yD140) xMT xFT yEX xm106 yD_141.2.1 yD_141.2.2.1 400 = true := by decide +kernel
-- IceBoats$RuleReader.numberIn
def yD_142 : YD := (107, ([(1, 3, 0), (0, 1, 20), (0, 1, 20)], [], true, [(some (.inl (0, -2147483648, 2147483647)), [])]), [(5, [(0, 1, (1, 3, 0)), (1, 1, (0, 1, 20)), (2, 1, (0, 1, 20)), (3, 1, (0, -2147483648, 2147483647)), (4, 1, (0, 1, 20))], [], [], (41, [(4, -2)]))], 400)
def yD142 : List YD := yD_142 :: yD141
theorem yk_142 : ychk yKD (yct yCT0 yD141) xMT xFT yEX xm107 yD_142.2.1 yD_142.2.2.1 400 = true := by decide +kernel
-- IceBoats$RuleReader.endOfDigits
def yD_143 : YD := (106, ([(1, 3, 0), (0, 1, 21)], [(0, 1)], true, [(some (.inr (3, [(1, 1)])), [(-5, [(2, 1)]), (-4, [(1, -1), (2, 1)]), (-3, [(1, -1), (2, 1)]), (-2, [(1, -1), (2, 1)]), (-1, [(1, -1), (2, 1)])]), (some (.inr (3, [(1, 1)])), [(-4, [(2, 1)]), (-3, [(1, -1), (2, 1)]), (-2, [(1, -1), (2, 1)]), (-1, [(1, -1), (2, 1)]), (3, [(1, 1), (2, -1)]), (24, [(2, -1)])]), (some (.inr (2, [(1, 1)])), [(-4, [(2, 1)]), (-3, [(1, -1), (2, 1)]), (-2, [(1, -1), (2, 1)]), (-1, [(1, -1), (2, 1)])]), (some (.inr (2, [(1, 1)])), [(-3, [(2, 1)]), (-2, [(1, -1), (2, 1)]), (-1, [(1, -1), (2, 1)]), (2, [(1, 1), (2, -1)]), (23, [(2, -1)])]), (some (.inr (1, [(1, 1)])), [(-3, [(2, 1)]), (-2, [(1, -1), (2, 1)]), (-1, [(1, -1), (2, 1)])]), (some (.inr (1, [(1, 1)])), [(-2, [(2, 1)]), (-1, [(1, -1), (2, 1)]), (1, [(1, 1), (2, -1)]), (22, [(2, -1)])]), (some (.inr (0, [(1, 1)])), [(-2, [(2, 1)]), (-1, [(1, -1), (2, 1)])]), (some (.inr (0, [(1, 1)])), [(0, [(1, 1), (2, -1)]), (21, [(2, -1)])])]), [], 400)
def yD143 : List YD := yD_143 :: yD142
theorem yk_143 : ychk yKD (yct yCT0 yD142) xMT xFT yEX xm106 yD_143.2.1 yD_143.2.2.1 400 = true := by decide +kernel
-- IceBoats$RuleReader.numberIn
def yD_144 : YD := (107, ([(1, 3, 0), (0, 1, 21), (0, 1, 24)], [], true, [(some (.inl (0, -2147483648, 2147483647)), [])]), [(5, [(0, 1, (1, 3, 0)), (1, 1, (0, 1, 21)), (2, 1, (0, 1, 24)), (3, 1, (0, -2147483648, 2147483647)), (4, 1, (0, 1, 24))], [], [], (49, [(4, -2)]))], 400)
def yD144 : List YD := yD_144 :: yD143
theorem yk_144 : ychk yKD (yct yCT0 yD143) xMT xFT yEX xm107 yD_144.2.1 yD_144.2.2.1 400 = true := by decide +kernel
-- IceBoats$RuleReader.endOfDigits
def yD_145 : YD := (106, ([(1, 3, 0), (0, 1, 36)], [(0, 1)], true, [(some (.inr (3, [(1, 1)])), [(-5, [(2, 1)]), (-4, [(1, -1), (2, 1)]), (-3, [(1, -1), (2, 1)]), (-2, [(1, -1), (2, 1)]), (-1, [(1, -1), (2, 1)])]), (some (.inr (3, [(1, 1)])), [(-4, [(2, 1)]), (-3, [(1, -1), (2, 1)]), (-2, [(1, -1), (2, 1)]), (-1, [(1, -1), (2, 1)]), (3, [(1, 1), (2, -1)]), (39, [(2, -1)])]), (some (.inr (2, [(1, 1)])), [(-4, [(2, 1)]), (-3, [(1, -1), (2, 1)]), (-2, [(1, -1), (2, 1)]), (-1, [(1, -1), (2, 1)])]), (some (.inr (2, [(1, 1)])), [(-3, [(2, 1)]), (-2, [(1, -1), (2, 1)]), (-1, [(1, -1), (2, 1)]), (2, [(1, 1), (2, -1)]), (38, [(2, -1)])]), (some (.inr (1, [(1, 1)])), [(-3, [(2, 1)]), (-2, [(1, -1), (2, 1)]), (-1, [(1, -1), (2, 1)])]), (some (.inr (1, [(1, 1)])), [(-2, [(2, 1)]), (-1, [(1, -1), (2, 1)]), (1, [(1, 1), (2, -1)]), (37, [(2, -1)])]), (some (.inr (0, [(1, 1)])), [(-2, [(2, 1)]), (-1, [(1, -1), (2, 1)])]), (some (.inr (0, [(1, 1)])), [(0, [(1, 1), (2, -1)]), (36, [(2, -1)])])]), [], 400)
def yD145 : List YD := yD_145 :: yD144
theorem yk_145 : ychk yKD (yct yCT0 yD144) xMT xFT yEX xm106 yD_145.2.1 yD_145.2.2.1 400 = true := by decide +kernel
-- IceBoats$RuleReader.numberIn
def yD_146 : YD := (107, ([(1, 3, 0), (0, 1, 36), (0, 1, 36)], [], true, [(some (.inl (0, -2147483648, 2147483647)), [])]), [(5, [(0, 1, (1, 3, 0)), (1, 1, (0, 1, 36)), (2, 1, (0, 1, 36)), (3, 1, (0, -2147483648, 2147483647)), (4, 1, (0, 1, 36))], [], [], (73, [(4, -2)]))], 400)
def yD146 : List YD := yD_146 :: yD145
theorem yk_146 : ychk yKD (yct yCT0 yD145) xMT xFT yEX xm107 yD_146.2.1 yD_146.2.2.1 400 = true := by decide +kernel
-- IceBoats$RuleReader.endOfDigits
def yD_147 : YD := (106, ([(1, 3, 0), (0, 1, 39)], [(0, 1)], true, [(some (.inr (3, [(1, 1)])), [(-5, [(2, 1)]), (-4, [(1, -1), (2, 1)]), (-3, [(1, -1), (2, 1)]), (-2, [(1, -1), (2, 1)]), (-1, [(1, -1), (2, 1)]), (36, [(1, -1)])]), (some (.inr (3, [(1, 1)])), [(-4, [(2, 1)]), (-3, [(1, -1), (2, 1)]), (-2, [(1, -1), (2, 1)]), (-1, [(1, -1), (2, 1)]), (3, [(1, 1), (2, -1)]), (37, [(1, -1)])]), (some (.inr (2, [(1, 1)])), [(-4, [(2, 1)]), (-3, [(1, -1), (2, 1)]), (-2, [(1, -1), (2, 1)]), (-1, [(1, -1), (2, 1)]), (37, [(1, -1)])]), (some (.inr (2, [(1, 1)])), [(-3, [(2, 1)]), (-2, [(1, -1), (2, 1)]), (-1, [(1, -1), (2, 1)]), (2, [(1, 1), (2, -1)]), (38, [(1, -1)])]), (some (.inr (1, [(1, 1)])), [(-3, [(2, 1)]), (-2, [(1, -1), (2, 1)]), (-1, [(1, -1), (2, 1)]), (38, [(1, -1)])]), (some (.inr (1, [(1, 1)])), [(-2, [(2, 1)]), (-1, [(1, -1), (2, 1)]), (1, [(1, 1), (2, -1)])]), (some (.inr (0, [(1, 1)])), [(-2, [(2, 1)]), (-1, [(1, -1), (2, 1)])]), (some (.inr (0, [(1, 1)])), [(0, [(1, 1), (2, -1)]), (39, [(2, -1)])])]), [], 400)
def yD147 : List YD := yD_147 :: yD146
theorem yk_147 : ychk yKD (yct yCT0 yD146) xMT xFT yEX xm106 yD_147.2.1 yD_147.2.2.1 400 = true := by decide +kernel
-- IceBoats$RuleReader.numberIn
def yD_148 : YD := (107, ([(1, 3, 0), (0, 1, 39), (0, 1, 39)], [], true, [(some (.inl (0, -2147483648, 2147483647)), [])]), [(5, [(0, 1, (1, 3, 0)), (1, 1, (0, 1, 39)), (2, 1, (0, 1, 39)), (3, 1, (0, -2147483648, 2147483647)), (4, 1, (0, 1, 39))], [], [], (79, [(4, -2)]))], 400)
def yD148 : List YD := yD_148 :: yD147
theorem yk_148 : ychk yKD (yct yCT0 yD147) xMT xFT yEX xm107 yD_148.2.1 yD_148.2.2.1 400 = true := by decide +kernel
-- IceBoats$RuleReader.numberIn
def yD_149 : YD := (107, ([(1, 3, 0), (0, 1, 39), (0, 1, 40)], [], true, [(some (.inl (0, -2147483648, 2147483647)), [])]), [(5, [(0, 1, (1, 3, 0)), (1, 1, (0, 1, 39)), (2, 1, (0, 1, 40)), (3, 1, (0, -2147483648, 2147483647)), (4, 1, (0, 1, 40))], [], [], (81, [(4, -2)]))], 400)
def yD149 : List YD := yD_149 :: yD148
theorem yk_149 : ychk yKD (yct yCT0 yD148) xMT xFT yEX xm107 yD_149.2.1 yD_149.2.2.1 400 = true := by decide +kernel
-- IceBoats$RuleReader.endOfDigits
def yD_150 : YD := (106, ([(1, 3, 0), (0, 1, 40)], [(0, 1)], true, [(some (.inr (3, [(1, 1)])), [(-5, [(2, 1)]), (-4, [(1, -1), (2, 1)]), (-3, [(1, -1), (2, 1)]), (-2, [(1, -1), (2, 1)]), (-1, [(1, -1), (2, 1)]), (36, [(1, -1)])]), (some (.inr (3, [(1, 1)])), [(-4, [(2, 1)]), (-3, [(1, -1), (2, 1)]), (-2, [(1, -1), (2, 1)]), (-1, [(1, -1), (2, 1)]), (3, [(1, 1), (2, -1)]), (37, [(1, -1)])]), (some (.inr (2, [(1, 1)])), [(-4, [(2, 1)]), (-3, [(1, -1), (2, 1)]), (-2, [(1, -1), (2, 1)]), (-1, [(1, -1), (2, 1)]), (37, [(1, -1)])]), (some (.inr (2, [(1, 1)])), [(-3, [(2, 1)]), (-2, [(1, -1), (2, 1)]), (-1, [(1, -1), (2, 1)]), (2, [(1, 1), (2, -1)]), (38, [(1, -1)])]), (some (.inr (1, [(1, 1)])), [(-3, [(2, 1)]), (-2, [(1, -1), (2, 1)]), (-1, [(1, -1), (2, 1)]), (38, [(1, -1)])]), (some (.inr (1, [(1, 1)])), [(-2, [(2, 1)]), (-1, [(1, -1), (2, 1)]), (1, [(1, 1), (2, -1)]), (39, [(1, -1)])]), (some (.inr (0, [(1, 1)])), [(-2, [(2, 1)]), (-1, [(1, -1), (2, 1)]), (39, [(1, -1)])]), (some (.inr (0, [(1, 1)])), [(0, [(1, 1), (2, -1)])])]), [], 400)
def yD150 : List YD := yD_150 :: yD149
theorem yk_150 : ychk yKD (yct yCT0 yD149) xMT xFT yEX xm106 yD_150.2.1 yD_150.2.2.1 400 = true := by decide +kernel
-- IceBoats$RuleReader.readRules
def yD_151 : YD := (104, ([(1, 22, 0), (1, 3, 0)], [], false, [(some (.inl (0, -9, 40)), [])]), [(2, [(0, 1, (1, 22, 0)), (1, 1, (1, 3, 0)), (2, 1, (0, 0, 4))], [], [], (91, [(2, -2)])), (23, [(0, 1, (1, 22, 0)), (1, 1, (1, 3, 0)), (2, 1, (0, 0, 40))], [], [], (81, [(2, -2)]))], 400)
def yD151 : List YD := yD_151 :: yD150
theorem yk_151 : ychk yKD (yct yCT0 yD150) xMT xFT yEX xm104 yD_151.2.1 yD_151.2.2.1 400 = true := by decide +kernel
-- IceBoats.fault
def yD_152 : YD := (103, ([(1, 0, 0), (0, -2147483648, 2147483647)], [], false, [(some (.inr (-1, [])), [(-1, [(1, -1)])]), (some (.inr (-1, [])), [(-4, [(1, 1)])]), (some (.inl (0, -9, 40)), [(0, [(1, 1)]), (3, [(1, -1)])]), (some (.inr (-3, [])), [(0, [(1, 1)]), (3, [(1, -1)])])]), [], 400)
def yD152 : List YD := yD_152 :: yD151
theorem yk_152 : ychk yKD (yct yCT0 yD151) xMT xFT yEX xm103 yD_152.2.1 yD_152.2.2.1 400 = true := by decide +kernel
-- IceBoats.rules
def yD_153 : YD := (108, ([(1, 0, 0), (0, -2147483648, 2147483647), (0, -2147483648, 2147483647)], [], false, [(some (.inl (0, -4, 4)), [])]), [], 400)
def yD153 : List YD := yD_153 :: yD152
theorem yk_153 : ychk yKD (yct yCT0 yD152) xMT xFT yEX xm108 yD_153.2.1 yD_153.2.2.1 400 = true := by decide +kernel
-- IceBoats.rule
def yD_154 : YD := (109, ([(1, 0, 0), (0, -2147483648, 2147483647), (0, -2147483648, 2147483647)], [], true, [(some (.inr (-1, [])), [(-4, [(2, 1)]), (0, [(1, 1)]), (5, [(1, -1)])]), (some (.inl (0, -2147483648, 2147483647)), [(0, [(1, 1)]), (0, [(2, 1)]), (3, [(2, -1)]), (5, [(1, -1)])]), (some (.inr (-1, [])), [(-1, [(2, -1)]), (0, [(1, 1)]), (5, [(1, -1)])]), (some (.inr (-1, [])), [(-6, [(1, 1)])]), (some (.inr (-1, [])), [(-1, [(1, -1)])])]), [], 400)
def yD154 : List YD := yD_154 :: yD153
theorem yk_154 : ychk yKD (yct yCT0 yD153) xMT xFT yEX xm109 yD_154.2.1 yD_154.2.2.1 400 = true := by decide +kernel
-- IceBoats.isDueNow
def yD_155 : YD := (111, ([(1, 0, 0), (0, -2147483648, 2147483647)], [(0, 12)], true, [(some (.inr (1, [])), [(-1, [(1, 1)])]), (some (.inr (0, [])), [(-1, [(1, 1)])]), (some (.inr (0, [])), [(0, [(1, -1)])])]), [], 400)
def yD155 : List YD := yD_155 :: yD154
theorem yk_155 : ychk yKD (yct yCT0 yD154) xMT xFT yEX xm111 yD_155.2.1 yD_155.2.2.1 400 = true := by decide +kernel
-- IceBoats.asks
def yD_156 : YD := (110, ([(1, 0, 0), (0, -2147483648, 2147483647)], [], true, [(some (.inl (0, -4, 14)), [])]), [], 400)
def yD156 : List YD := yD_156 :: yD155
theorem yk_156 : ychk yKD (yct yCT0 yD155) xMT xFT yEX xm110 yD_156.2.1 yD_156.2.2.1 400 = true := by decide +kernel
-- IceBoats.isMap
def yD_157 : YD := (113, ([(1, 3, 0)], [], true, [(some (.inr (0, [])), []), (some (.inr (1, [])), [])]), [(2, [(0, 1, (1, 3, 0)), (1, 1, (0, 0, 40))], [], [], (81, [(1, -2)]))], 400)
def yD157 : List YD := yD_157 :: yD156
theorem yk_157 : ychk yKD (yct yCT0 yD156) xMT xFT yEX xm113 yD_157.2.1 yD_157.2.2.1 400 = true := by decide +kernel
-- IceBoats.alikePlaces
def yD_158 : YD := (114, ([(1, 3, 0), (1, 3, 0), (0, -2147483648, 2147483647), (0, -2147483648, 2147483647)], [], true, [(some (.inl (0, -2147483648, 2147483647)), [])]), [(6, [(0, 1, (1, 3, 0)), (1, 1, (1, 3, 0)), (2, 1, (0, -2147483648, 2147483647)), (3, 1, (0, -2147483648, 2147483647)), (4, 1, (0, -2147483648, 2147483647)), (5, 1, (0, 0, 16))], [], [], (33, [(5, -2)]))], 400)
def yD158 : List YD := yD_158 :: yD157
theorem yk_158 : ychk yKD (yct yCT0 yD157) xMT xFT yEX xm114 yD_158.2.1 yD_158.2.2.1 400 = true := by decide +kernel
-- IceBoats.shifts
def yD_159 : YD := (112, ([(1, 0, 0), (0, -2147483648, 2147483647), (0, -2147483648, 2147483647), (0, -2147483648, 2147483647)], [], false, [(some (.inl (0, -2147483648, 2147483647)), [])]), [(117, [(0, 1, (1, 0, 0)), (1, 1, (0, 0, 5)), (2, 1, (0, 0, 5)), (3, 1, (0, 1, 16)), (4, 1, (1, 3, 0)), (5, 1, (1, 3, 0)), (6, 1, (0, -2147483648, 2147483647)), (7, 1, (0, 0, 100)), (8, 1, (0, -3, 4))], [(4, 1, (0, 16, 16)), (5, 1, (0, 16, 16))], [(-1, [(8, -1), (9, 1)]), (-1, [(8, -1), (10, 1)]), (-1, [(1, -1), (9, 1)]), (-1, [(2, -1), (9, 1)]), (-1, [(1, -1), (10, 1)]), (-1, [(2, -1), (10, 1)])], (89, [(8, -18)])), (127, [(0, 1, (1, 0, 0)), (1, 1, (0, 0, 5)), (2, 1, (0, 0, 5)), (3, 1, (0, 1, 16)), (4, 1, (1, 3, 0)), (5, 1, (1, 3, 0)), (6, 1, (0, -2147483648, 2147483647)), (7, 1, (0, 0, 100)), (8, 1, (0, -3, 3)), (9, 1, (0, -3, 4))], [(4, 1, (0, 16, 16)), (5, 1, (0, 16, 16))], [(-1, [(9, -1), (10, 1)]), (-1, [(8, -1), (10, 1)]), (-1, [(8, -1), (11, 1)]), (-1, [(1, -1), (10, 1)]), (-1, [(2, -1), (10, 1)]), (-1, [(9, -1), (11, 1)]), (-1, [(1, -1), (11, 1)]), (-1, [(2, -1), (11, 1)])], (81, [(8, -18), (9, -2)]))], 400)
def yD159 : List YD := yD_159 :: yD158
theorem yk_159 : ychk yKD (yct yCT0 yD158) xMT xFT yEX xm112 yD_159.2.1 yD_159.2.2.1 400 = true := by decide +kernel
-- IceBoats.mapped
def yD_160 : YD := (115, ([(1, 0, 0), (0, -2147483648, 2147483647)], [], false, [(some (.inl (0, -1, 127)), [])]), [(17, [(0, 1, (1, 0, 0)), (1, 1, (0, 0, 63)), (2, 1, (2, 0, 0)), (4, 1, (0, 0, 40))], [], [], (81, [(3, -2)]))], 400)
def yD160 : List YD := yD_160 :: yD159
theorem yk_160 : ychk yKD (yct yCT0 yD159) xMT xFT yEX xm115 yD_160.2.1 yD_160.2.2.1 400 = true := by decide +kernel
-- IceBoats.faultOfWays
def yD_161 : YD := (119, ([(1, 3, 0), (0, -2147483648, 2147483647)], [(0, 1)], true, [(some (.inr (5, [])), [(-1, [(1, -1), (2, 1)]), (-1, [(2, 1)]), (39, [(1, -1)])]), (some (.inr (3, [])), [(-1, [(1, 1)]), (-1, [(2, 1)]), (0, [(1, 1), (2, -1)])]), (some (.inr (0, [])), [(-1, [(1, 1)]), (-1, [(2, 1)]), (0, [(1, 1), (2, -1)])]), (some (.inr (5, [])), [(0, [(2, -1)]), (0, [(2, 1)])]), (some (.inr (1, [])), [(-1, [(2, -1)])])]), [], 400)
def yD161 : List YD := yD_161 :: yD160
theorem yk_161 : ychk yKD (yct yCT0 yD160) xMT xFT yEX xm119 yD_161.2.1 yD_161.2.2.1 400 = true := by decide +kernel
-- IceBoats$Drift.clearNext
def yD_162 : YD := (130, ([(1, 27, 0)], [], false, [(none, [])]), [(2, [(0, 1, (1, 27, 0)), (1, 1, (0, 0, 64))], [], [], (129, [(1, -2)]))], 400)
def yD162 : List YD := yD_162 :: yD161
theorem yk_162 : ychk yKD (yct yCT0 yD161) xMT xFT yEX xm130 yD_162.2.1 yD_162.2.2.1 400 = true := by decide +kernel
-- IceBoats$Drift.swapNext
def yD_163 : YD := (131, ([(1, 27, 0)], [], false, [(none, [])]), [], 400)
def yD163 : List YD := yD_163 :: yD162
theorem yk_163 : ychk yKD (yct yCT0 yD162) xMT xFT yEX xm131 yD_163.2.1 yD_163.2.2.1 400 = true := by decide +kernel
-- IceBoats$Drift.startIn
def yD_164 : YD := (129, ([(1, 27, 0), (0, 0, 63)], [], false, [(none, [])]), [], 400)
def yD164 : List YD := yD_164 :: yD163
theorem yk_164 : ychk yKD (yct yCT0 yD163) xMT xFT yEX xm129 yD_164.2.1 yD_164.2.2.1 400 = true := by decide +kernel
-- IceBoats$Drift.lead
def yD_165 : YD := (133, ([(1, 27, 0), (0, 0, 9), (0, -2147483648, 2147483647), (0, -2147483648, 2147483647)], [], false, [(none, [])]), [], 400)
def yD165 : List YD := yD_165 :: yD164
theorem yk_165 : ychk yKD (yct yCT0 yD164) xMT xFT yEX xm133 yD_165.2.1 yD_165.2.2.1 400 = true := by decide +kernel
-- IceBoats$Drift.lead
def yD_166 : YD := (133, ([(1, 27, 0), (0, 0, 63), (0, -2147483648, 2147483647), (0, -2147483648, 2147483647)], [], false, [(none, [])]), [], 400)
def yD166 : List YD := yD_166 :: yD165
theorem yk_166 : ychk yKD (yct yCT0 yD165) xMT xFT yEX xm133 yD_166.2.1 yD_166.2.2.1 400 = true := by decide +kernel
-- IceBoats$Drift.follow
def yD_167 : YD := (132, ([(1, 27, 0), (1, 5, 0), (0, 0, 4), (0, 1, 3)], [], false, [(none, [])]), [(7, [(0, 1, (1, 27, 0)), (1, 1, (1, 5, 0)), (2, 1, (0, 0, 4)), (3, 1, (0, 1, 3)), (4, 1, (0, 0, 64))], [], [], (129, [(4, -2)]))], 400)
def yD167 : List YD := yD_167 :: yD166
theorem yk_167 : ychk yKD (yct yCT0 yD166) xMT xFT yEX xm132 yD_167.2.1 yD_167.2.2.1 400 = true := by decide +kernel
-- IceBoats.tellShare
def yD_168 : YD := (134, ([(1, 0, 0), (2, 0, 0), (2, 0, 0)], [], false, [(none, [])]), [(9, [(0, 1, (1, 0, 0)), (1, 1, (2, 0, 0)), (3, 1, (2, 0, 0)), (5, 1, (2, 0, 0)), (7, 1, (2, 0, 0)), (9, 1, (0, 0, 16))], [], [], (33, [(5, -2)]))], 400)
def yD168 : List YD := yD_168 :: yD167
theorem yk_168 : ychk yKD (yct yCT0 yD167) xMT xFT yEX xm134 yD_168.2.1 yD_168.2.2.1 400 = true := by decide +kernel
-- IceBoats.odds
def yD_169 : YD := (128, ([(1, 0, 0), (0, -2147483648, 2147483647), (0, -2147483648, 2147483647)], [], false, [(some (.inr (-3, [])), []), (some (.inr (-1, [])), []), (some (.inr (1, [])), [])]), [(54, [(0, 1, (1, 0, 0)), (1, 1, (0, 0, 63)), (2, 1, (0, 0, 5)), (3, 1, (1, 3, 0)), (4, 1, (0, 0, 0)), (5, 1, (2, 0, 0)), (7, 1, (0, 0, 40))], [], [], (81, [(6, -2)]))], 400)
def yD169 : List YD := yD_169 :: yD168
theorem yk_169 : ychk yKD (yct yCT0 yD168) xMT xFT yEX xm128 yD_169.2.1 yD_169.2.2.1 400 = true := by decide +kernel
-- IceBoats.areSights
def yD_170 : YD := (137, ([(1, 3, 0), (0, -2147483648, 2147483647)], [], true, [(some (.inr (0, [])), []), (some (.inr (1, [])), [])]), [(2, [(0, 1, (1, 3, 0)), (1, 1, (0, -2147483648, 2147483647)), (2, 1, (0, 0, 40))], [], [], (81, [(2, -2)]))], 400)
def yD170 : List YD := yD_170 :: yD169
theorem yk_170 : ychk yKD (yct yCT0 yD169) xMT xFT yEX xm137 yD_170.2.1 yD_170.2.2.1 400 = true := by decide +kernel
-- IceBoats.faultOfCourses
def yD_171 : YD := (136, ([(1, 3, 0), (1, 3, 0)], [(0, 1), (1, 1)], true, [(some (.inr (5, [])), [(-1, [(2, 1)]), (0, [(3, 1)]), (10, [(2, -1)])]), (some (.inr (3, [])), [(-1, [(2, 1)]), (0, [(3, 1)]), (10, [(2, -1)])]), (some (.inr (0, [])), [(-1, [(2, 1)]), (0, [(3, 1)]), (10, [(2, -1)])]), (some (.inr (3, [])), [(-1, [(2, 1)]), (0, [(3, 1)]), (10, [(2, -1)])]), (some (.inr (5, [])), [(-11, [(2, 1)]), (0, [(3, 1)])]), (some (.inr (5, [])), [(0, [(2, -1)]), (0, [(2, 1)]), (0, [(3, 1)])]), (some (.inr (1, [])), [(-1, [(3, -1)]), (0, [(2, 1)])]), (some (.inr (1, [])), [(-1, [(2, -1)])])]), [], 400)
def yD171 : List YD := yD_171 :: yD170
theorem yk_171 : ychk yKD (yct yCT0 yD170) xMT xFT yEX xm136 yD_171.2.1 yD_171.2.2.1 400 = true := by decide +kernel
-- IceBoats$Drift.keepOnly
def yD_172 : YD := (139, ([(1, 27, 0), (0, -2147483648, 2147483647)], [], false, [(none, [])]), [(2, [(0, 1, (1, 27, 0)), (1, 1, (0, -2147483648, 2147483647)), (2, 1, (0, 0, 64))], [], [], (129, [(2, -2)]))], 400)
def yD172 : List YD := yD_172 :: yD171
theorem yk_172 : ychk yKD (yct yCT0 yD171) xMT xFT yEX xm139 yD_172.2.1 yD_172.2.2.1 400 = true := by decide +kernel
-- IceBoats.keepWhatWasSeen
def yD_173 : YD := (138, ([(1, 0, 0), (1, 3, 0), (0, -2147483648, 2147483647)], [], false, [(none, [])]), [(2, [(0, 1, (1, 0, 0)), (1, 1, (1, 3, 0)), (2, 1, (0, -2147483648, 2147483647)), (3, 1, (0, 0, 40))], [], [], (81, [(3, -2)]))], 400)
def yD173 : List YD := yD_173 :: yD172
theorem yk_173 : ychk yKD (yct yCT0 yD172) xMT xFT yEX xm138 yD_173.2.1 yD_173.2.2.1 400 = true := by decide +kernel
-- IceBoats$Drift.leastOddRow
def yD_174 : YD := (140, ([(1, 27, 0)], [], true, [(some (.inl (0, -1023, 1023)), [])]), [(6, [(0, 1, (1, 27, 0)), (1, 1, (0, -2147483648, 11264)), (2, 1, (0, 0, 64))], [], [], (129, [(2, -2)]))], 400)
def yD174 : List YD := yD_174 :: yD173
theorem yk_174 : ychk yKD (yct yCT0 yD173) xMT xFT yEX xm140 yD_174.2.1 yD_174.2.2.1 400 = true := by decide +kernel
-- IceBoats$Drift.sumOfWeights
def yD_175 : YD := (141, ([(1, 27, 0)], [], true, [(some (.inl (0, -2147483648, 2147483647)), [])]), [(4, [(0, 1, (1, 27, 0)), (1, 1, (0, -2147483648, 2147483647)), (2, 1, (0, 0, 64))], [], [], (129, [(2, -2)]))], 400)
def yD175 : List YD := yD_175 :: yD174
theorem yk_175 : ychk yKD (yct yCT0 yD174) xMT xFT yEX xm141 yD_175.2.1 yD_175.2.2.1 400 = true := by decide +kernel
-- IceBoats.courses
def yD_176 : YD := (135, ([(1, 0, 0), (0, -2147483648, 2147483647), (0, -2147483648, 2147483647), (0, -2147483648, 2147483647)], [], false, [(some (.inl (0, -2147483648, 2147483647)), [])]), [(66, [(0, 1, (1, 0, 0)), (1, 1, (0, 0, 63)), (2, 1, (0, 0, 5)), (3, 1, (0, 0, 5)), (4, 1, (1, 3, 0)), (5, 1, (1, 3, 0)), (6, 1, (0, 0, 0)), (7, 1, (0, 0, 40))], [], [], (81, [(7, -2)]))], 400)
def yD176 : List YD := yD_176 :: yD175
theorem yk_176 : ychk yKD (yct yCT0 yD175) xMT xFT yEX xm135 yD_176.2.1 yD_176.2.2.1 400 = true := by decide +kernel
-- IceBoats.asked
def yD_177 : YD := (142, ([(1, 0, 0)], [(0, 15)], true, [(some (.inr (0, [(1, 1)])), [])]), [], 400)
def yD177 : List YD := yD_177 :: yD176
theorem yk_177 : ychk yKD (yct yCT0 yD176) xMT xFT yEX xm142 yD_177.2.1 yD_177.2.2.1 400 = true := by decide +kernel
-- IceBoats.set
def yD_178 : YD := (143, ([(1, 0, 0)], [], true, [(some (.inl (2, 0, 0)), [])]), [], 400)
def yD178 : List YD := yD_178 :: yD177
theorem yk_178 : ychk yKD (yct yCT0 yD177) xMT xFT yEX xm143 yD_178.2.1 yD_178.2.2.1 400 = true := by decide +kernel
-- IceBoats.upper
def yD_179 : YD := (144, ([(1, 0, 0)], [], true, [(some (.inl (2, 0, 0)), [])]), [], 400)
def yD179 : List YD := yD_179 :: yD178
theorem yk_179 : ychk yKD (yct yCT0 yD178) xMT xFT yEX xm144 yD_179.2.1 yD_179.2.2.1 400 = true := by decide +kernel
-- IceBoats.lower
def yD_180 : YD := (145, ([(1, 0, 0)], [], true, [(some (.inl (2, 0, 0)), [])]), [], 400)
def yD180 : List YD := yD_180 :: yD179
theorem yk_180 : ychk yKD (yct yCT0 yD179) xMT xFT yEX xm145 yD_180.2.1 yD_180.2.2.1 400 = true := by decide +kernel
-- IceBoats.rowsThere
def yD_181 : YD := (149, ([(1, 2, 0)], [], true, [(some (.inl (0, -2147483648, 2147483647)), [])]), [(4, [(0, 1, (1, 2, 0)), (1, 1, (0, -2147483648, 2147483647)), (2, 1, (0, 0, 4))], [], [], (9, [(2, -2)]))], 400)
def yD181 : List YD := yD_181 :: yD180
theorem yk_181 : ychk yKD (yct yCT0 yD180) xMT xFT yEX xm149 yD_181.2.1 yD_181.2.2.1 400 = true := by decide +kernel
-- IceBoats.rowsThere
def yD_182 : YD := (149, ([(1, 1, 0)], [], true, [(some (.inl (0, -2147483648, 2147483647)), [])]), [(4, [(0, 1, (1, 1, 0)), (1, 1, (0, -2147483648, 2147483647)), (2, 1, (0, 0, 6))], [], [], (13, [(2, -2)]))], 400)
def yD182 : List YD := yD_182 :: yD181
theorem yk_182 : ychk yKD (yct yCT0 yD181) xMT xFT yEX xm149 yD_182.2.1 yD_182.2.2.1 400 = true := by decide +kernel
-- IceBoats.boatsOfKind
def yD_183 : YD := (148, ([(1, 0, 0), (0, -2147483648, 2147483647)], [], true, [(some (.inl (0, -2147483648, 2147483647)), [])]), [(4, [(0, 1, (1, 0, 0)), (1, 1, (0, -2147483648, 2147483647)), (2, 1, (0, -2147483648, 2147483647)), (3, 1, (0, 0, 6))], [], [], (13, [(3, -2)]))], 400)
def yD183 : List YD := yD_183 :: yD182
theorem yk_183 : ychk yKD (yct yCT0 yD182) xMT xFT yEX xm148 yD_183.2.1 yD_183.2.2.1 400 = true := by decide +kernel
-- IceBoats.ableBoats
def yD_184 : YD := (147, ([(1, 0, 0)], [], true, [(some (.inl (0, -2147483648, 2147483647)), [])]), [(4, [(0, 1, (1, 0, 0)), (1, 1, (0, -2147483648, 2147483647)), (2, 1, (0, 0, 6))], [], [], (13, [(2, -2)]))], 400)
def yD184 : List YD := yD_184 :: yD183
theorem yk_184 : ychk yKD (yct yCT0 yD183) xMT xFT yEX xm147 yD_184.2.1 yD_184.2.2.1 400 = true := by decide +kernel
-- IceBoats.count
def yD_185 : YD := (146, ([(1, 0, 0), (0, -2147483648, 2147483647)], [(0, 11), (0, 10), (0, 12)], true, [(some (.inr (-1, [])), [(-8, [(1, 1)])]), (some (.inr (-1, [])), [(-1, [(1, -1)])]), (some (.inl (0, -2147483648, 2147483647)), [(-7, [(1, 1)]), (7, [(1, -1)])]), (some (.inl (0, -2147483648, 2147483647)), [(-6, [(1, 1)]), (6, [(1, -1)])]), (some (.inl (0, -2147483648, 2147483647)), [(-5, [(1, 1)]), (5, [(1, -1)])]), (some (.inl (0, -2147483648, 2147483647)), [(-4, [(1, 1)]), (4, [(1, -1)])]), (some (.inr (0, [(2, 1)])), [(-3, [(1, 1)]), (3, [(1, -1)])]), (some (.inr (0, [(3, 1)])), [(-2, [(1, 1)]), (2, [(1, -1)])]), (some (.inl (0, -2147483648, 2147483647)), [(-1, [(1, 1)]), (1, [(1, -1)])]), (some (.inr (0, [(4, 1)])), [(0, [(1, -1)]), (0, [(1, 1)])])]), [], 400)
def yD185 : List YD := yD_185 :: yD184
theorem yk_185 : ychk yKD (yct yCT0 yD184) xMT xFT yEX xm146 yD_185.2.1 yD_185.2.2.1 400 = true := by decide +kernel
-- IceBoats.finding
def yD_186 : YD := (150, ([(1, 0, 0)], [(0, 14)], true, [(some (.inr (0, [(1, 1)])), [])]), [], 400)
def yD186 : List YD := yD_186 :: yD185
theorem yk_186 : ychk yKD (yct yCT0 yD185) xMT xFT yEX xm150 yD_186.2.1 yD_186.2.2.1 400 = true := by decide +kernel
-- IceBoats.findings
def yD_187 : YD := (151, ([(1, 0, 0), (0, -2147483648, 2147483647)], [], true, [(some (.inr (-1, [])), [(-6, [(1, 1)])]), (some (.inl (0, -2147483648, 2147483647)), [(-1, [(1, 1)]), (5, [(1, -1)])]), (some (.inr (-1, [])), [(0, [(1, -1)])])]), [], 400)
def yD187 : List YD := yD_187 :: yD186
theorem yk_187 : ychk yKD (yct yCT0 yD186) xMT xFT yEX xm151 yD_187.2.1 yD_187.2.2.1 400 = true := by decide +kernel
-- IceBoats.digestBoats
def yD_188 : YD := (153, ([(1, 0, 0), (2, 0, 0)], [], true, [(some (.inl (2, 0, 0)), [])]), [(15, [(0, 1, (1, 0, 0)), (1, 1, (2, 0, 0)), (3, 1, (2, 0, 0)), (5, 1, (0, 0, 5)), (6, 1, (0, 0, 6))], [], [], (179, [(3, -26), (4, -2)])), (5, [(0, 1, (1, 0, 0)), (1, 1, (2, 0, 0)), (3, 1, (2, 0, 0)), (5, 1, (0, 0, 6))], [], [], (181, [(3, -26)])), (70, [(0, 1, (1, 0, 0)), (1, 1, (2, 0, 0)), (3, 1, (2, 0, 0)), (5, 1, (0, 0, 5)), (6, 1, (0, 0, 4))], [(0, 3, (1, 13, 0))], [], (165, [(3, -26), (4, -2)]))], 400)
def yD188 : List YD := yD_188 :: yD187
theorem yk_188 : ychk yKD (yct yCT0 yD187) xMT xFT yEX xm153 yD_188.2.1 yD_188.2.2.1 400 = true := by decide +kernel
-- IceBoats.digestWords
def yD_189 : YD := (154, ([(1, 0, 0), (2, 0, 0)], [], true, [(some (.inl (2, 0, 0)), [])]), [(17, [(0, 1, (1, 0, 0)), (1, 1, (2, 0, 0)), (3, 1, (2, 0, 0)), (5, 1, (0, 0, 39)), (6, 1, (0, 0, 4))], [(0, 10, (0, 1, 40))], [(-1, [(3, -1), (5, 1)])], (1063, [(3, -26), (4, -2)])), (5, [(0, 1, (1, 0, 0)), (1, 1, (2, 0, 0)), (3, 1, (2, 0, 0)), (5, 1, (0, 0, 40))], [], [], (1065, [(3, -26)])), (52, [(0, 1, (1, 0, 0)), (1, 1, (2, 0, 0)), (3, 1, (2, 0, 0)), (5, 1, (0, 0, 39)), (6, 1, (0, 0, 6))], [(0, 10, (0, 1, 40))], [(-1, [(3, -1), (5, 1)])], (1053, [(3, -26), (4, -2)]))], 400)
def yD189 : List YD := yD_189 :: yD188
theorem yk_189 : ychk yKD (yct yCT0 yD188) xMT xFT yEX xm154 yD_189.2.1 yD_189.2.2.1 400 = true := by decide +kernel
-- IceBoats.digestLooks
def yD_190 : YD := (155, ([(1, 0, 0), (2, 0, 0)], [], true, [(some (.inl (2, 0, 0)), [])]), [(17, [(0, 1, (1, 0, 0)), (1, 1, (2, 0, 0)), (3, 1, (2, 0, 0)), (5, 1, (0, 0, 39)), (6, 1, (0, 0, 4))], [(0, 11, (0, 1, 40))], [(-1, [(3, -1), (5, 1)])], (489, [(3, -12), (4, -2)])), (5, [(0, 1, (1, 0, 0)), (1, 1, (2, 0, 0)), (3, 1, (2, 0, 0)), (5, 1, (0, 0, 40))], [], [], (491, [(3, -12)]))], 400)
def yD190 : List YD := yD_190 :: yD189
theorem yk_190 : ychk yKD (yct yCT0 yD189) xMT xFT yEX xm155 yD_190.2.1 yD_190.2.2.1 400 = true := by decide +kernel
-- IceBoats.digestRows
def yD_191 : YD := (156, ([(2, 0, 0), (1, 1, 0)], [], true, [(some (.inl (2, 0, 0)), [])]), [(30, [(0, 1, (2, 0, 0)), (2, 1, (1, 1, 0)), (3, 1, (2, 0, 0)), (5, 1, (0, 0, 5)), (6, 1, (0, 0, 40))], [], [], (585, [(3, -84), (4, -2)])), (5, [(0, 1, (2, 0, 0)), (2, 1, (1, 1, 0)), (3, 1, (2, 0, 0)), (5, 1, (0, 0, 6))], [], [], (587, [(3, -84)]))], 400)
def yD191 : List YD := yD_191 :: yD190
theorem yk_191 : ychk yKD (yct yCT0 yD190) xMT xFT yEX xm156 yD_191.2.1 yD_191.2.2.1 400 = true := by decide +kernel
-- IceBoats.digestRows
def yD_192 : YD := (156, ([(2, 0, 0), (1, 2, 0)], [], true, [(some (.inl (2, 0, 0)), [])]), [(30, [(0, 1, (2, 0, 0)), (2, 1, (1, 2, 0)), (3, 1, (2, 0, 0)), (5, 1, (0, 0, 3)), (6, 1, (0, 0, 40))], [], [], (417, [(3, -84), (4, -2)])), (5, [(0, 1, (2, 0, 0)), (2, 1, (1, 2, 0)), (3, 1, (2, 0, 0)), (5, 1, (0, 0, 4))], [], [], (419, [(3, -84)]))], 400)
def yD192 : List YD := yD_192 :: yD191
theorem yk_192 : ychk yKD (yct yCT0 yD191) xMT xFT yEX xm156 yD_192.2.1 yD_192.2.2.1 400 = true := by decide +kernel
-- IceBoats.digest
def yD_193 : YD := (152, ([(1, 0, 0)], [], true, [(some (.inl (2, 0, 0)), [])]), [(33, [(0, 1, (1, 0, 0)), (1, 1, (2, 0, 0)), (3, 1, (0, 0, 64))], [], [], (909, [(2, -14)])), (42, [(0, 1, (1, 0, 0)), (1, 1, (2, 0, 0)), (3, 1, (0, 0, 63)), (4, 1, (0, 0, 5))], [], [], (907, [(2, -14), (3, -2)])), (6, [(0, 1, (1, 0, 0)), (1, 1, (2, 0, 0)), (3, 1, (0, 0, 8))], [], [], (927, [(2, -2)]))], 400)
def yD193 : List YD := yD_193 :: yD192
theorem yk_193 : ychk yKD (yct yCT0 yD192) xMT xFT yEX xm152 yD_193.2.1 yD_193.2.2.1 400 = true := by decide +kernel
-- IceBoatsModel.in
def yD_194 : YD := (160, ([(0, -2147483648, 2147483647), (0, -2147483648, 2147483647), (0, -2147483648, 2147483647)], [], true, [(some (.inr (1, [])), [(0, [(0, -1), (2, 1)]), (0, [(0, 1), (1, -1)])]), (some (.inr (0, [])), [(-1, [(0, 1), (2, -1)]), (0, [(0, 1), (1, -1)]), (2147483646, [(2, -1)]), (2147483647, [(0, 1)])]), (some (.inr (0, [])), [(-1, [(0, -1), (1, 1)]), (2147483646, [(0, -1)]), (2147483647, [(1, 1)])])]), [], 400)
def yD194 : List YD := yD_194 :: yD193
theorem yk_194 : ychk yKD (yct yCT0 yD193) xMT xFT yEX xm160 yD_194.2.1 yD_194.2.2.1 400 = true := by decide +kernel
-- IceBoatsModel.isRow
def yD_195 : YD := (159, ([(0, -2147483648, 2147483647)], [], true, [(some (.inr (0, [])), [(-1, [(0, -1)])]), (some (.inr (0, [])), [(-6, [(0, 1)])]), (some (.inr (1, [])), [(0, [(0, 1)]), (5, [(0, -1)])])]), [], 400)
def yD195 : List YD := yD_195 :: yD194
theorem yk_195 : ychk yKD (yct yCT0 yD194) xMT xFT yEX xm159 yD_195.2.1 yD_195.2.2.1 400 = true := by decide +kernel
-- IceBoatsModel.meets
def yD_196 : YD := (161, ([(1, 30, 0), (0, 1, 5)], [], false, [(some (.inr (-3, [])), [])]), [], 400)
def yD196 : List YD := yD_196 :: yD195
theorem yk_196 : ychk yKD (yct yCT0 yD195) xMT xFT yEX xm161 yD_196.2.1 yD_196.2.2.1 400 = true := by decide +kernel
-- IceBoatsModel.row
def yD_197 : YD := (158, ([(1, 30, 0), (0, -2147483648, 2147483647), (0, -2147483648, 2147483647)], [], false, [(some (.inl (0, -3, 40)), [])]), [(34, [(0, 1, (1, 30, 0)), (1, 1, (0, 0, 5)), (2, 1, (0, 0, 40)), (3, 1, (0, 0, 40))], [(0, 7, (1, 32, 0))], [], (81, [(3, -2)]))], 400)
def yD197 : List YD := yD_197 :: yD196
theorem yk_197 : ychk yKD (yct yCT0 yD196) xMT xFT yEX xm158 yD_197.2.1 yD_197.2.2.1 400 = true := by decide +kernel
-- IceBoatsModel.askedRow
def yD_198 : YD := (163, ([(1, 30, 0), (0, -2147483648, 2147483647)], [], false, [(some (.inr (-3, [])), [(0, [(1, 1)]), (5, [(1, -1)])]), (some (.inr (0, [])), [(0, [(1, 1)]), (5, [(1, -1)])]), (some (.inr (-1, [])), [(-6, [(1, 1)])]), (some (.inr (-1, [])), [(-1, [(1, -1)])])]), [], 400)
def yD198 : List YD := yD_198 :: yD197
theorem yk_198 : ychk yKD (yct yCT0 yD197) xMT xFT yEX xm163 yD_198.2.1 yD_198.2.2.1 400 = true := by decide +kernel
-- IceBoatsModel.rowAt
def yD_199 : YD := (164, ([(1, 30, 0), (0, 0, 5), (0, 0, 39)], [], true, [(some (.inl (0, -2147483648, 2147483647)), [])]), [], 400)
def yD199 : List YD := yD_199 :: yD198
theorem yk_199 : ychk yKD (yct yCT0 yD198) xMT xFT yEX xm164 yD_199.2.1 yD_199.2.2.1 400 = true := by decide +kernel
-- IceBoatsModel.lay
def yD_200 : YD := (162, ([(1, 30, 0), (0, -2147483648, 2147483647), (0, -2147483648, 2147483647), (0, -2147483648, 2147483647)], [], false, [(some (.inr (-1, [])), [(-1, [(1, -1)])]), (some (.inr (-1, [])), [(-6, [(1, 1)])]), (some (.inr (-3, [])), [(-1, [(2, -1)]), (0, [(1, 1)]), (5, [(1, -1)])]), (some (.inr (-3, [])), [(0, [(1, 1)]), (0, [(2, 1)]), (5, [(1, -1)])]), (some (.inr (1, [])), [(0, [(1, 1)]), (0, [(2, 1)]), (5, [(1, -1)]), (39, [(2, -1)])]), (some (.inr (-3, [])), [(0, [(1, 1)]), (5, [(1, -1)])])]), [], 400)
def yD200 : List YD := yD_200 :: yD199
theorem yk_200 : ychk yKD (yct yCT0 yD199) xMT xFT yEX xm162 yD_200.2.1 yD_200.2.2.1 400 = true := by decide +kernel
-- IceBoatsModel.tear
def yD_201 : YD := (165, ([(1, 30, 0), (0, -2147483648, 2147483647)], [], false, [(some (.inr (-1, [])), [(-1, [(1, -1)])]), (some (.inr (-1, [])), [(-6, [(1, 1)])]), (some (.inr (1, [])), [(0, [(1, 1)]), (5, [(1, -1)])]), (some (.inr (-3, [])), [(0, [(1, 1)]), (5, [(1, -1)])])]), [], 400)
def yD201 : List YD := yD_201 :: yD200
theorem yk_201 : ychk yKD (yct yCT0 yD200) xMT xFT yEX xm165 yD_201.2.1 yD_201.2.2.1 400 = true := by decide +kernel
-- IceBoatsModel.copy
def yD_202 : YD := (166, ([(1, 30, 0), (0, -2147483648, 2147483647), (0, -2147483648, 2147483647), (0, -2147483648, 2147483647), (0, -2147483648, 2147483647), (0, -2147483648, 2147483647)], [], false, [(some (.inr (-3, [])), []), (some (.inr (-1, [])), []), (some (.inr (1, [])), [])]), [(104, [(0, 1, (1, 30, 0)), (1, 1, (0, 0, 5)), (2, 1, (0, 0, 40)), (3, 1, (0, 0, 5)), (4, 1, (0, 0, 40)), (5, 1, (0, 0, 40)), (6, 1, (0, 0, 40))], [(0, 7, (1, 32, 0))], [(40, [(2, -1), (5, -1)]), (40, [(4, -1), (5, -1)])], (163, [(6, -2)])), (136, [(0, 1, (1, 30, 0)), (1, 1, (0, 0, 5)), (2, 1, (0, 0, 40)), (3, 1, (0, 0, 5)), (4, 1, (0, 0, 40)), (5, 1, (0, 0, 40)), (6, 1, (0, 0, 40))], [(0, 7, (1, 32, 0))], [(40, [(2, -1), (5, -1)]), (40, [(4, -1), (5, -1)])], (81, [(6, -2)]))], 400)
def yD202 : List YD := yD_202 :: yD201
theorem yk_202 : ychk yKD (yct yCT0 yD201) xMT xFT yEX xm166 yD_202.2.1 yD_202.2.2.1 400 = true := by decide +kernel
-- IceBoatsModel.ask
def yD_203 : YD := (168, ([(1, 30, 0), (0, -2147483648, 2147483647), (0, -2147483648, 2147483647)], [], false, [(some (.inr (0, [(2, 1)])), [])]), [], 400)
def yD203 : List YD := yD_203 :: yD202
theorem yk_203 : ychk yKD (yct yCT0 yD202) xMT xFT yEX xm168 yD_203.2.1 yD_203.2.2.1 400 = true := by decide +kernel
-- IceBoatsModel.mean
def yD_204 : YD := (167, ([(1, 30, 0), (0, -2147483648, 2147483647)], [], false, [(some (.inr (-3, [])), []), (some (.inr (-1, [])), []), (some (.inr (1, [])), [])]), [(17, [(0, 1, (1, 30, 0)), (1, 1, (0, 0, 5)), (2, 1, (0, 0, 0)), (3, 1, (2, 0, 0)), (5, 1, (0, 0, 40))], [], [], (81, [(4, -2)]))], 400)
def yD204 : List YD := yD_204 :: yD203
theorem yk_204 : ychk yKD (yct yCT0 yD203) xMT xFT yEX xm167 yD_204.2.1 yD_204.2.2.1 400 = true := by decide +kernel
-- IceBoatsModel.isText
def yD_205 : YD := (170, ([(0, -2147483648, 2147483647)], [], true, [(some (.inr (0, [])), [(-1, [(0, -1)])]), (some (.inr (0, [])), [(-4, [(0, 1)])]), (some (.inr (1, [])), [(0, [(0, 1)]), (3, [(0, -1)])])]), [], 400)
def yD205 : List YD := yD_205 :: yD204
theorem yk_205 : ychk yKD (yct yCT0 yD204) xMT xFT yEX xm170 yD_205.2.1 yD_205.2.2.1 400 = true := by decide +kernel
-- IceBoatsModel.text
def yD_206 : YD := (169, ([(1, 30, 0), (0, -2147483648, 2147483647), (0, -2147483648, 2147483647)], [], false, [(some (.inl (0, -3, 40)), [])]), [(34, [(0, 1, (1, 30, 0)), (1, 1, (0, 0, 3)), (2, 1, (0, 0, 40)), (3, 1, (0, 0, 40))], [(0, 10, (1, 35, 0))], [], (81, [(3, -2)]))], 400)
def yD206 : List YD := yD_206 :: yD205
theorem yk_206 : ychk yKD (yct yCT0 yD205) xMT xFT yEX xm169 yD_206.2.1 yD_206.2.2.1 400 = true := by decide +kernel
-- IceBoatsModel.askedText
def yD_207 : YD := (172, ([(1, 30, 0), (0, -2147483648, 2147483647)], [], false, [(some (.inr (-3, [])), [(0, [(1, 1)]), (3, [(1, -1)])]), (some (.inr (0, [])), [(0, [(1, 1)]), (3, [(1, -1)])]), (some (.inr (-1, [])), [(-4, [(1, 1)])]), (some (.inr (-1, [])), [(-1, [(1, -1)])])]), [], 400)
def yD207 : List YD := yD_207 :: yD206
theorem yk_207 : ychk yKD (yct yCT0 yD206) xMT xFT yEX xm172 yD_207.2.1 yD_207.2.2.1 400 = true := by decide +kernel
-- IceBoatsModel.put
def yD_208 : YD := (171, ([(1, 30, 0), (0, -2147483648, 2147483647), (0, -2147483648, 2147483647), (0, -2147483648, 2147483647)], [], false, [(some (.inr (-1, [])), [(-1, [(1, -1)])]), (some (.inr (-1, [])), [(-4, [(1, 1)])]), (some (.inr (-3, [])), [(-1, [(2, -1)]), (0, [(1, 1)]), (3, [(1, -1)])]), (some (.inr (-3, [])), [(0, [(1, 1)]), (0, [(2, 1)]), (3, [(1, -1)])]), (some (.inl (0, -2147483648, 2147483647)), [(0, [(1, 1)]), (0, [(2, 1)]), (3, [(1, -1)]), (39, [(2, -1)])]), (some (.inr (-3, [])), [(0, [(1, 1)]), (3, [(1, -1)])])]), [], 400)
def yD208 : List YD := yD_208 :: yD207
theorem yk_208 : ychk yKD (yct yCT0 yD207) xMT xFT yEX xm171 yD_208.2.1 yD_208.2.2.1 400 = true := by decide +kernel
-- IceBoatsModel.isCell
def yD_209 : YD := (174, ([(0, -2147483648, 2147483647)], [], true, [(some (.inr (0, [])), [(-1, [(0, -1)])]), (some (.inr (0, [])), [(-64, [(0, 1)])]), (some (.inr (1, [])), [(0, [(0, 1)]), (63, [(0, -1)])])]), [], 400)
def yD209 : List YD := yD_209 :: yD208
theorem yk_209 : ychk yKD (yct yCT0 yD208) xMT xFT yEX xm174 yD_209.2.1 yD_209.2.2.1 400 = true := by decide +kernel
-- IceBoatsModel.isTaken
def yD_210 : YD := (175, ([(1, 30, 0), (0, -2147483648, 2147483647)], [], true, [(some (.inl (0, 0, 1)), [])]), [(16, [(0, 1, (1, 30, 0)), (1, 1, (0, -2147483648, 2147483647)), (2, 1, (0, 0, 1)), (3, 1, (0, 0, 6))], [(0, 17, (0, 0, 63))], [], (13, [(3, -2)]))], 400)
def yD210 : List YD := yD_210 :: yD209
theorem yk_210 : ychk yKD (yct yCT0 yD209) xMT xFT yEX xm175 yD_210.2.1 yD_210.2.2.1 400 = true := by decide +kernel
-- IceBoatsModel.rock
def yD_211 : YD := (173, ([(1, 30, 0), (0, -2147483648, 2147483647), (0, 0, 1)], [], false, [(some (.inr (-4, [])), [(-1, [(2, 1)]), (0, [(1, 1)]), (63, [(1, -1)])]), (some (.inr (1, [])), [(-1, [(2, 1)]), (0, [(1, 1)]), (63, [(1, -1)])]), (some (.inr (0, [])), [(-1, [(2, 1)]), (0, [(1, 1)]), (63, [(1, -1)])]), (some (.inr (1, [])), [(0, [(1, 1)]), (0, [(2, -1)]), (63, [(1, -1)])]), (some (.inr (0, [])), [(0, [(1, 1)]), (0, [(2, -1)]), (63, [(1, -1)])]), (some (.inr (-1, [])), [(-64, [(1, 1)])]), (some (.inr (-1, [])), [(-1, [(1, -1)])])]), [], 400)
def yD211 : List YD := yD_211 :: yD210
theorem yk_211 : ychk yKD (yct yCT0 yD210) xMT xFT yEX xm173 yD_211.2.1 yD_211.2.2.1 400 = true := by decide +kernel
-- IceBoatsModel.isWay
def yD_212 : YD := (177, ([(0, -2147483648, 2147483647)], [], true, [(some (.inr (0, [])), [(-1, [(0, -1)])]), (some (.inr (0, [])), [(-5, [(0, 1)])]), (some (.inr (1, [])), [(0, [(0, 1)]), (4, [(0, -1)])])]), [], 400)
def yD212 : List YD := yD_212 :: yD211
theorem yk_212 : ychk yKD (yct yCT0 yD211) xMT xFT yEX xm177 yD_212.2.1 yD_212.2.2.1 400 = true := by decide +kernel
-- IceBoatsModel.isIce
def yD_213 : YD := (178, ([(0, -2147483648, 2147483647)], [], true, [(some (.inr (0, [])), [(-1, [(0, -1)])]), (some (.inr (0, [])), [(-10, [(0, 1)])]), (some (.inr (1, [])), [(0, [(0, 1)]), (9, [(0, -1)])])]), [], 400)
def yD213 : List YD := yD_213 :: yD212
theorem yk_213 : ychk yKD (yct yCT0 yD212) xMT xFT yEX xm178 yD_213.2.1 yD_213.2.2.1 400 = true := by decide +kernel
-- IceBoatsModel.cell
def yD_214 : YD := (176, ([(1, 30, 0), (0, -2147483648, 2147483647), (0, -2147483648, 2147483647), (0, -2147483648, 2147483647), (0, -2147483648, 2147483647)], [], false, [(some (.inr (-1, [])), [(0, [(1, 1)]), (0, [(2, 1)]), (0, [(3, -1)]), (4, [(2, -1)]), (63, [(1, -1)])]), (some (.inr (-1, [])), [(-5, [(3, 1)]), (0, [(1, 1)]), (0, [(2, 1)]), (4, [(2, -1)]), (63, [(1, -1)])]), (some (.inr (1, [])), [(-1, [(3, 1)]), (0, [(1, 1)]), (0, [(2, 1)]), (0, [(4, 1)]), (4, [(2, -1)]), (4, [(3, -1)]), (9, [(4, -1)]), (63, [(1, -1)])]), (some (.inr (-1, [])), [(-10, [(4, 1)]), (-1, [(3, 1)]), (0, [(1, 1)]), (0, [(2, 1)]), (4, [(2, -1)]), (4, [(3, -1)]), (63, [(1, -1)])]), (some (.inr (-1, [])), [(-1, [(3, 1)]), (-1, [(4, -1)]), (0, [(1, 1)]), (0, [(2, 1)]), (4, [(2, -1)]), (4, [(3, -1)]), (63, [(1, -1)])]), (some (.inr (-1, [])), [(-5, [(2, 1)]), (0, [(1, 1)]), (63, [(1, -1)])]), (some (.inr (-1, [])), [(-1, [(2, -1)]), (0, [(1, 1)]), (63, [(1, -1)])]), (some (.inr (-1, [])), [(-64, [(1, 1)])]), (some (.inr (-1, [])), [(-1, [(1, -1)])])]), [], 400)
def yD214 : List YD := yD_214 :: yD213
theorem yk_214 : ychk yKD (yct yCT0 yD213) xMT xFT yEX xm176 yD_214.2.1 yD_214.2.2.1 400 = true := by decide +kernel
-- IceBoatsModel.seaTells
def yD_215 : YD := (180, ([(1, 30, 0), (0, 0, 63), (0, 0, 4)], [], true, [(some (.inr (1, [])), [(0, [(2, -1)])]), (some (.inr (0, [])), [(0, [(2, -1)])]), (some (.inl (0, 0, 4)), [(-1, [(2, 1)]), (1, [(2, -1)])]), (some (.inl (0, 1, 4)), [(-2, [(2, 1)]), (2, [(2, -1)])]), (some (.inl (0, -2147483648, 2147483647)), [(-3, [(2, 1)]), (3, [(2, -1)])]), (some (.inl (0, -2147483648, 2147483647)), [(-4, [(2, 1)])])]), [], 400)
def yD215 : List YD := yD_215 :: yD214
theorem yk_215 : ychk yKD (yct yCT0 yD214) xMT xFT yEX xm180 yD_215.2.1 yD_215.2.2.1 400 = true := by decide +kernel
-- IceBoatsModel.sea
def yD_216 : YD := (179, ([(1, 30, 0), (0, -2147483648, 2147483647), (0, -2147483648, 2147483647)], [], false, [(some (.inr (-1, [])), [(-1, [(2, -1)]), (0, [(1, 1)]), (63, [(1, -1)])]), (some (.inr (-1, [])), [(-5, [(2, 1)]), (0, [(1, 1)]), (63, [(1, -1)])]), (some (.inr (1, [])), [(-4, [(2, 1)]), (0, [(1, 1)]), (4, [(2, -1)]), (63, [(1, -1)])]), (some (.inr (1, [])), [(-3, [(2, 1)]), (0, [(1, 1)]), (3, [(2, -1)]), (63, [(1, -1)])]), (some (.inr (1, [])), [(-2, [(2, 1)]), (0, [(1, 1)]), (2, [(2, -1)]), (63, [(1, -1)])]), (some (.inr (1, [])), [(-1, [(2, 1)]), (0, [(1, 1)]), (1, [(2, -1)]), (63, [(1, -1)])]), (some (.inr (1, [])), [(0, [(1, 1)]), (0, [(2, -1)]), (0, [(2, 1)]), (63, [(1, -1)])]), (some (.inr (-1, [])), [(-64, [(1, 1)])]), (some (.inr (-1, [])), [(-1, [(1, -1)])])]), [], 400)
def yD216 : List YD := yD_216 :: yD215
theorem yk_216 : ychk yKD (yct yCT0 yD215) xMT xFT yEX xm179 yD_216.2.1 yD_216.2.2.1 400 = true := by decide +kernel
-- IceBoatsModel.chart
def yD_217 : YD := (181, ([(1, 30, 0), (0, -2147483648, 2147483647), (0, -2147483648, 2147483647)], [], false, [(some (.inr (1, [])), [(0, [(1, 1)]), (0, [(2, 1)]), (9, [(2, -1)]), (63, [(1, -1)])]), (some (.inr (-1, [])), [(-10, [(2, 1)]), (0, [(1, 1)]), (63, [(1, -1)])]), (some (.inr (-1, [])), [(-1, [(2, -1)]), (0, [(1, 1)]), (8, [(2, 1)]), (63, [(1, -1)])]), (some (.inr (-1, [])), [(-10, [(2, -1)]), (0, [(1, 1)]), (63, [(1, -1)])]), (some (.inr (1, [])), [(-9, [(2, -1)]), (0, [(1, 1)]), (9, [(2, 1)]), (63, [(1, -1)])]), (some (.inr (-1, [])), [(-64, [(1, 1)])]), (some (.inr (-1, [])), [(-1, [(1, -1)])])]), [], 400)
def yD217 : List YD := yD_217 :: yD216
theorem yk_217 : ychk yKD (yct yCT0 yD216) xMT xFT yEX xm181 yD_217.2.1 yD_217.2.2.1 400 = true := by decide +kernel
-- IceBoatsModel.hole
def yD_218 : YD := (182, ([(1, 30, 0), (0, -2147483648, 2147483647)], [], false, [(some (.inr (-4, [])), [(0, [(1, 1)]), (63, [(1, -1)])]), (some (.inl (0, 0, 63)), [(0, [(1, 1)]), (63, [(1, -1)])]), (some (.inr (-1, [])), [(-64, [(1, 1)])]), (some (.inr (-1, [])), [(-1, [(1, -1)])])]), [], 400)
def yD218 : List YD := yD_218 :: yD217
theorem yk_218 : ychk yKD (yct yCT0 yD217) xMT xFT yEX xm182 yD_218.2.1 yD_218.2.2.1 400 = true := by decide +kernel
-- IceBoatsModel.seed
def yD_219 : YD := (183, ([(1, 30, 0), (0, -2147483648, 2147483647)], [], false, [(some (.inr (1, [])), [])]), [], 400)
def yD219 : List YD := yD_219 :: yD218
theorem yk_219 : ychk yKD (yct yCT0 yD218) xMT xFT yEX xm183 yD_219.2.1 yD_219.2.2.1 400 = true := by decide +kernel
-- IceBoatsModel.time
def yD_220 : YD := (184, ([(1, 30, 0), (0, -2147483648, 2147483647), (0, -2147483648, 2147483647)], [], false, [(some (.inr (-1, [])), [(0, [(1, 1)]), (0, [(2, 1)]), (63, [(1, -1)]), (63, [(2, -1)])]), (some (.inl (0, -2147483648, 99999)), [(0, [(1, 1)]), (0, [(2, 1)]), (63, [(1, -1)]), (63, [(2, -1)])]), (some (.inr (-3, [])), [(0, [(1, 1)]), (0, [(2, 1)]), (63, [(1, -1)]), (63, [(2, -1)])]), (some (.inr (-1, [])), [(-64, [(2, 1)]), (0, [(1, 1)]), (63, [(1, -1)])]), (some (.inr (-1, [])), [(-1, [(2, -1)]), (0, [(1, 1)]), (63, [(1, -1)])]), (some (.inr (-1, [])), [(-64, [(1, 1)])]), (some (.inr (-1, [])), [(-1, [(1, -1)])])]), [], 400)
def yD220 : List YD := yD_220 :: yD219
theorem yk_220 : ychk yKD (yct yCT0 yD219) xMT xFT yEX xm184 yD_220.2.1 yD_220.2.2.1 400 = true := by decide +kernel
-- IceBoatsModel.isBoat
def yD_221 : YD := (188, ([(0, -2147483648, 2147483647)], [], true, [(some (.inr (0, [])), [(-1, [(0, -1)])]), (some (.inr (0, [])), [(-6, [(0, 1)])]), (some (.inr (1, [])), [(0, [(0, 1)]), (5, [(0, -1)])])]), [], 400)
def yD221 : List YD := yD_221 :: yD220
theorem yk_221 : ychk yKD (yct yCT0 yD220) xMT xFT yEX xm188 yD_221.2.1 yD_221.2.2.1 400 = true := by decide +kernel
-- IceBoatsModel.boat
def yD_222 : YD := (187, ([(1, 30, 0), (0, -2147483648, 2147483647), (0, -2147483648, 2147483647), (0, -2147483648, 2147483647), (0, -2147483648, 2147483647)], [], false, [(some (.inr (-1, [])), [(-1, [(2, -1)]), (0, [(1, 1)]), (5, [(1, -1)])]), (some (.inr (-1, [])), [(-4, [(2, 1)]), (0, [(1, 1)]), (5, [(1, -1)])]), (some (.inr (-1, [])), [(-1, [(4, -1)]), (0, [(1, 1)]), (0, [(2, 1)]), (0, [(3, 1)]), (3, [(2, -1)]), (5, [(1, -1)]), (63, [(3, -1)])]), (some (.inr (-1, [])), [(-1001, [(4, 1)]), (0, [(1, 1)]), (0, [(2, 1)]), (0, [(3, 1)]), (3, [(2, -1)]), (5, [(1, -1)]), (63, [(3, -1)])]), (some (.inr (-4, [])), [(0, [(1, 1)]), (0, [(2, 1)]), (0, [(3, 1)]), (0, [(4, 1)]), (3, [(2, -1)]), (5, [(1, -1)]), (63, [(3, -1)]), (1000, [(4, -1)])]), (some (.inr (1, [])), [(0, [(1, 1)]), (0, [(2, 1)]), (0, [(3, 1)]), (0, [(4, 1)]), (3, [(2, -1)]), (5, [(1, -1)]), (63, [(3, -1)]), (1000, [(4, -1)])]), (some (.inr (-1, [])), [(-64, [(3, 1)]), (0, [(1, 1)]), (0, [(2, 1)]), (3, [(2, -1)]), (5, [(1, -1)])]), (some (.inr (-1, [])), [(-1, [(3, -1)]), (0, [(1, 1)]), (0, [(2, 1)]), (3, [(2, -1)]), (5, [(1, -1)])]), (some (.inr (-1, [])), [(-6, [(1, 1)])]), (some (.inr (-1, [])), [(-1, [(1, -1)])])]), [], 400)
def yD222 : List YD := yD_222 :: yD221
theorem yk_222 : ychk yKD (yct yCT0 yD221) xMT xFT yEX xm187 yD_222.2.1 yD_222.2.2.1 400 = true := by decide +kernel
-- IceBoatsModel.heldBy
def yD_223 : YD := (193, ([(1, 30, 0), (0, -2147483648, 2147483647)], [], true, [(some (.inl (0, -2147483648, 2147483647)), [])]), [(4, [(0, 1, (1, 30, 0)), (1, 1, (0, -2147483648, 2147483647)), (2, 1, (0, -2147483648, 2147483647)), (3, 1, (0, 0, 40))], [], [], (81, [(3, -2)]))], 400)
def yD223 : List YD := yD_223 :: yD222
theorem yk_223 : ychk yKD (yct yCT0 yD222) xMT xFT yEX xm193 yD_223.2.1 yD_223.2.2.1 400 = true := by decide +kernel
-- IceBoatsModel.has
def yD_224 : YD := (192, ([(2, 0, 0), (0, -2147483648, 2147483647)], [], true, [(some (.inr (1, [])), []), (some (.inr (0, [])), [])]), [], 400)
def yD224 : List YD := yD_224 :: yD223
theorem yk_224 : ychk yKD (yct yCT0 yD223) xMT xFT yEX xm192 yD_224.2.1 yD_224.2.2.1 400 = true := by decide +kernel
-- IceBoatsModel.many
def yD_225 : YD := (191, ([(2, 0, 0)], [], true, [(some (.inl (0, -2147483648, 2147483647)), [])]), [(4, [(0, 1, (2, 0, 0)), (2, 1, (0, -2147483648, 2147483647)), (3, 1, (0, 0, 64))], [], [], (129, [(2, -2)]))], 400)
def yD225 : List YD := yD_225 :: yD224
theorem yk_225 : ychk yKD (yct yCT0 yD224) xMT xFT yEX xm191 yD_225.2.1 yD_225.2.2.1 400 = true := by decide +kernel
-- IceBoatsModel.boatTells
def yD_226 : YD := (190, ([(1, 30, 0), (0, 0, 5), (0, 0, 5)], [], true, [(some (.inl (0, -2147483648, 2147483647)), [(-5, [(2, 1)])]), (some (.inl (0, -2147483648, 2147483647)), [(-4, [(2, 1)]), (4, [(2, -1)])]), (some (.inl (0, -2147483648, 2147483647)), [(-3, [(2, 1)]), (3, [(2, -1)])]), (some (.inl (0, -2147483648, 2147483647)), [(-2, [(2, 1)]), (2, [(2, -1)])]), (some (.inl (0, 0, 63)), [(-1, [(2, 1)]), (1, [(2, -1)])]), (some (.inl (0, 0, 6)), [(0, [(2, -1)])])]), [], 400)
def yD226 : List YD := yD_226 :: yD225
theorem yk_226 : ychk yKD (yct yCT0 yD225) xMT xFT yEX xm190 yD_226.2.1 yD_226.2.2.1 400 = true := by decide +kernel
-- IceBoatsModel.told
def yD_227 : YD := (189, ([(1, 30, 0), (0, -2147483648, 2147483647), (0, -2147483648, 2147483647)], [], false, [(some (.inr (-1, [])), [(-1, [(2, -1)]), (0, [(1, 1)]), (5, [(1, -1)])]), (some (.inr (-1, [])), [(-6, [(2, 1)]), (0, [(1, 1)]), (5, [(1, -1)])]), (some (.inr (1, [])), [(0, [(1, 1)]), (0, [(2, -1)]), (0, [(2, 1)]), (5, [(1, -1)])]), (some (.inr (1, [])), [(-1, [(2, 1)]), (0, [(1, 1)]), (1, [(2, -1)]), (5, [(1, -1)])]), (some (.inr (1, [])), [(-2, [(2, 1)]), (0, [(1, 1)]), (2, [(2, -1)]), (5, [(1, -1)])]), (some (.inr (1, [])), [(-3, [(2, 1)]), (0, [(1, 1)]), (3, [(2, -1)]), (5, [(1, -1)])]), (some (.inr (1, [])), [(-4, [(2, 1)]), (0, [(1, 1)]), (4, [(2, -1)]), (5, [(1, -1)])]), (some (.inr (1, [])), [(-5, [(2, 1)]), (0, [(1, 1)]), (5, [(1, -1)]), (5, [(2, -1)])]), (some (.inr (-1, [])), [(-6, [(1, 1)])]), (some (.inr (-1, [])), [(-1, [(1, -1)])])]), [], 400)
def yD227 : List YD := yD_227 :: yD226
theorem yk_227 : ychk yKD (yct yCT0 yD226) xMT xFT yEX xm189 yD_227.2.1 yD_227.2.2.1 400 = true := by decide +kernel
-- IceBoatsModel.mark
def yD_228 : YD := (194, ([(1, 30, 0), (0, -2147483648, 2147483647), (0, -2147483648, 2147483647)], [], false, [(some (.inl (0, -2147483648, 2147483647)), [])]), [(133, [(0, 1, (1, 30, 0)), (1, 1, (0, 0, 5)), (2, 1, (0, 5, 5)), (3, 1, (0, 1, 1)), (4, 1, (0, -2147483648, 2147483647)), (5, 1, (0, 0, 40))], [(0, 20, (1, 43, 0))], [], (81, [(5, -2)]))], 400)
def yD228 : List YD := yD_228 :: yD227
theorem yk_228 : ychk yKD (yct yCT0 yD227) xMT xFT yEX xm194 yD_228.2.1 yD_228.2.2.1 400 = true := by decide +kernel
-- IceBoatsModel.could
def yD_229 : YD := (195, ([(1, 30, 0), (0, -2147483648, 2147483647)], [], false, [(some (.inl (0, -2147483648, 2147483647)), [(0, [(1, 1)]), (5, [(1, -1)])]), (some (.inr (-1, [])), [(-6, [(1, 1)])]), (some (.inr (-1, [])), [(-1, [(1, -1)])])]), [], 400)
def yD229 : List YD := yD_229 :: yD228
theorem yk_229 : ychk yKD (yct yCT0 yD228) xMT xFT yEX xm195 yD_229.2.1 yD_229.2.2.1 400 = true := by decide +kernel
-- IceBoatsModel.isAble
def yD_230 : YD := (197, ([(1, 30, 0), (0, 0, 5)], [], true, [(some (.inr (1, [])), []), (some (.inr (0, [])), [])]), [], 400)
def yD230 : List YD := yD_230 :: yD229
theorem yk_230 : ychk yKD (yct yCT0 yD229) xMT xFT yEX xm197 yD_230.2.1 yD_230.2.2.1 400 = true := by decide +kernel
-- IceBoatsModel.go
def yD_231 : YD := (196, ([(1, 30, 0), (0, -2147483648, 2147483647), (0, -2147483648, 2147483647)], [], false, [(some (.inr (-4, [])), [(0, [(1, 1)]), (0, [(2, 1)]), (4, [(2, -1)]), (5, [(1, -1)])]), (some (.inr (1, [])), [(0, [(1, 1)]), (0, [(2, 1)]), (4, [(2, -1)]), (5, [(1, -1)])]), (some (.inr (-1, [])), [(-5, [(2, 1)]), (0, [(1, 1)]), (5, [(1, -1)])]), (some (.inr (-1, [])), [(-1, [(2, -1)]), (0, [(1, 1)]), (5, [(1, -1)])]), (some (.inr (-1, [])), [(-6, [(1, 1)])]), (some (.inr (-1, [])), [(-1, [(1, -1)])])]), [], 400)
def yD231 : List YD := yD_231 :: yD230
theorem yk_231 : ychk yKD (yct yCT0 yD230) xMT xFT yEX xm196 yD_231.2.1 yD_231.2.2.1 400 = true := by decide +kernel
-- IceBoatsModel.leads
def yD_232 : YD := (186, ([(1, 30, 0), (0, 0, 63), (0, 1, 1)], [], true, [(some (.inr (0, [(1, 1)])), [(-1, [(1, 1)]), (63, [(1, -1)])]), (some (.inr (-8, [(1, 1)])), [(-8, [(1, 1)]), (63, [(1, -1)])]), (some (.inr (0, [(1, 1)])), [(0, [(1, 1)]), (7, [(1, -1)])])]), [], 400)
def yD232 : List YD := yD_232 :: yD231
theorem yk_232 : ychk yKD (yct yCT0 yD231) xMT xFT yEX xm186 yD_232.2.1 yD_232.2.2.1 400 = true := by decide +kernel
-- IceBoatsModel.apart
def yD_233 : YD := (206, ([(0, -2147483648, 2147483647), (0, -2147483648, 2147483647)], [], true, [(some (.inl (0, -2147483648, 2147483647)), [])]), [], 400)
def yD233 : List YD := yD_233 :: yD232
theorem yk_233 : ychk yKD (yct yCT0 yD232) xMT xFT yEX xm206 yD_233.2.1 yD_233.2.2.1 400 = true := by decide +kernel
-- IceBoatsModel.leads
def yD_234 : YD := (186, ([(1, 30, 0), (0, 0, 63), (0, 1, 2)], [], true, [(some (.inr (0, [(1, 1)])), [(-1, [(1, 1)]), (1, [(2, -1)]), (63, [(1, -1)])]), (some (.inr (-8, [(1, 1)])), [(-8, [(1, 1)]), (1, [(2, -1)]), (63, [(1, -1)])]), (some (.inr (0, [(1, 1)])), [(0, [(1, 1)]), (1, [(2, -1)]), (7, [(1, -1)])]), (some (.inr (0, [(1, 1)])), [(-2, [(2, 1)]), (-1, [(1, 1)]), (63, [(1, -1)])]), (some (.inr (-1, [(1, 1)])), [(-2, [(2, 1)]), (-1, [(1, 1)]), (63, [(1, -1)])]), (some (.inr (0, [(1, 1)])), [(-2, [(2, 1)])])]), [], 400)
def yD234 : List YD := yD_234 :: yD233
theorem yk_234 : ychk yKD (yct yCT0 yD233) xMT xFT yEX xm186 yD_234.2.1 yD_234.2.2.1 400 = true := by decide +kernel
-- IceBoatsModel.leads
def yD_235 : YD := (186, ([(1, 30, 0), (0, 0, 63), (0, 1, 3)], [], true, [(some (.inr (0, [(1, 1)])), [(-1, [(1, 1)]), (1, [(2, -1)]), (63, [(1, -1)])]), (some (.inr (-8, [(1, 1)])), [(-8, [(1, 1)]), (1, [(2, -1)]), (63, [(1, -1)])]), (some (.inr (0, [(1, 1)])), [(0, [(1, 1)]), (1, [(2, -1)]), (7, [(1, -1)])]), (some (.inr (0, [(1, 1)])), [(-2, [(2, 1)]), (-1, [(1, 1)]), (2, [(2, -1)]), (63, [(1, -1)])]), (some (.inr (-1, [(1, 1)])), [(-2, [(2, 1)]), (-1, [(1, 1)]), (2, [(2, -1)]), (63, [(1, -1)])]), (some (.inr (0, [(1, 1)])), [(-2, [(2, 1)]), (2, [(2, -1)])]), (some (.inr (0, [(1, 1)])), [(-3, [(2, 1)])]), (some (.inr (1, [(1, 1)])), [(-3, [(2, 1)]), (0, [(1, 1)]), (62, [(1, -1)])]), (some (.inr (0, [(1, 1)])), [(-3, [(2, 1)]), (-1, [(1, 1)]), (63, [(1, -1)])])]), [], 400)
def yD235 : List YD := yD_235 :: yD234
theorem yk_235 : ychk yKD (yct yCT0 yD234) xMT xFT yEX xm186 yD_235.2.1 yD_235.2.2.1 400 = true := by decide +kernel
-- IceBoatsModel.leads
def yD_236 : YD := (186, ([(1, 30, 0), (0, 0, 63), (0, 1, 4)], [], true, [(some (.inr (0, [(1, 1)])), [(-1, [(1, 1)]), (1, [(2, -1)]), (63, [(1, -1)])]), (some (.inr (-8, [(1, 1)])), [(-8, [(1, 1)]), (1, [(2, -1)]), (63, [(1, -1)])]), (some (.inr (0, [(1, 1)])), [(0, [(1, 1)]), (1, [(2, -1)]), (7, [(1, -1)])]), (some (.inr (0, [(1, 1)])), [(-2, [(2, 1)]), (-1, [(1, 1)]), (2, [(2, -1)]), (63, [(1, -1)])]), (some (.inr (-1, [(1, 1)])), [(-2, [(2, 1)]), (-1, [(1, 1)]), (2, [(2, -1)]), (63, [(1, -1)])]), (some (.inr (0, [(1, 1)])), [(-2, [(2, 1)]), (2, [(2, -1)])]), (some (.inr (0, [(1, 1)])), [(-3, [(2, 1)]), (3, [(2, -1)])]), (some (.inr (1, [(1, 1)])), [(-3, [(2, 1)]), (0, [(1, 1)]), (3, [(2, -1)]), (62, [(1, -1)])]), (some (.inr (0, [(1, 1)])), [(-3, [(2, 1)]), (-1, [(1, 1)]), (3, [(2, -1)]), (63, [(1, -1)])]), (some (.inr (0, [(1, 1)])), [(-4, [(2, 1)])]), (some (.inr (8, [(1, 1)])), [(-4, [(2, 1)]), (0, [(1, 1)]), (55, [(1, -1)])]), (some (.inr (0, [(1, 1)])), [(-4, [(2, 1)]), (-1, [(1, 1)]), (63, [(1, -1)])])]), [], 400)
def yD236 : List YD := yD_236 :: yD235
theorem yk_236 : ychk yKD (yct yCT0 yD235) xMT xFT yEX xm186 yD_236.2.1 yD_236.2.2.1 400 = true := by decide +kernel
-- IceBoatsModel.nearer
def yD_237 : YD := (204, ([(1, 30, 0), (0, 0, 0), (0, 0, 63)], [], true, [(some (.inl (0, 0, 4)), [])]), [(13, [(0, 1, (1, 30, 0)), (1, 1, (0, 0, 0)), (2, 1, (0, 0, 63)), (3, 1, (0, 0, 63)), (4, 1, (0, 1, 5))], [(0, 23, (1, 46, 0))], [], (11, [(4, -2)]))], 400)
def yD237 : List YD := yD_237 :: yD236
theorem yk_237 : ychk yKD (yct yCT0 yD236) xMT xFT yEX xm204 yD_237.2.1 yD_237.2.2.1 400 = true := by decide +kernel
-- IceBoatsModel.keepsFar
def yD_238 : YD := (203, ([(1, 30, 0), (0, 0, 0), (0, 0, 0)], [], false, [(none, [])]), [(18, [(0, 1, (1, 30, 0)), (1, 1, (0, 0, 0)), (2, 1, (0, 0, 0)), (3, 1, (0, -2147483648, 2147483647)), (4, 1, (2, 0, 0)), (6, 1, (0, 0, 64))], [], [], (8579, [(5, -132)])), (58, [(0, 1, (1, 30, 0)), (1, 1, (0, 0, 0)), (2, 1, (0, 0, 0)), (3, 1, (0, -2147483648, 2147483647)), (4, 1, (2, 0, 0)), (6, 1, (0, 0, 63)), (7, 1, (0, 0, 64))], [], [], (8577, [(5, -132), (6, -2)]))], 400)
def yD238 : List YD := yD_238 :: yD237
theorem yk_238 : ychk yKD (yct yCT0 yD237) xMT xFT yEX xm203 yD_238.2.1 yD_238.2.2.1 400 = true := by decide +kernel
-- IceBoatsModel.takes
def yD_239 : YD := (202, ([(1, 30, 0), (0, 0, 0), (0, 0, 0)], [], false, [(none, [])]), [], 400)
def yD239 : List YD := yD_239 :: yD238
theorem yk_239 : ychk yKD (yct yCT0 yD238) xMT xFT yEX xm202 yD_239.2.1 yD_239.2.2.1 400 = true := by decide +kernel
-- IceBoatsModel.keepsFar
def yD_240 : YD := (203, ([(1, 30, 0), (0, 0, 0), (0, 0, 1)], [], false, [(none, [])]), [(18, [(0, 1, (1, 30, 0)), (1, 1, (0, 0, 0)), (2, 1, (0, 0, 1)), (3, 1, (0, -2147483648, 2147483647)), (4, 1, (2, 0, 0)), (6, 1, (0, 0, 64))], [], [], (8579, [(5, -132)])), (58, [(0, 1, (1, 30, 0)), (1, 1, (0, 0, 0)), (2, 1, (0, 0, 1)), (3, 1, (0, -2147483648, 2147483647)), (4, 1, (2, 0, 0)), (6, 1, (0, 0, 63)), (7, 1, (0, 0, 64))], [], [], (8577, [(5, -132), (6, -2)]))], 400)
def yD240 : List YD := yD_240 :: yD239
theorem yk_240 : ychk yKD (yct yCT0 yD239) xMT xFT yEX xm203 yD_240.2.1 yD_240.2.2.1 400 = true := by decide +kernel
-- IceBoatsModel.takes
def yD_241 : YD := (202, ([(1, 30, 0), (0, 0, 0), (0, 0, 1)], [], false, [(none, [])]), [], 400)
def yD241 : List YD := yD_241 :: yD240
theorem yk_241 : ychk yKD (yct yCT0 yD240) xMT xFT yEX xm202 yD_241.2.1 yD_241.2.2.1 400 = true := by decide +kernel
-- IceBoatsModel.keepsFar
def yD_242 : YD := (203, ([(1, 30, 0), (0, 0, 0), (0, 0, 3)], [], false, [(none, [])]), [(18, [(0, 1, (1, 30, 0)), (1, 1, (0, 0, 0)), (2, 1, (0, 0, 3)), (3, 1, (0, -2147483648, 2147483647)), (4, 1, (2, 0, 0)), (6, 1, (0, 0, 64))], [], [], (8579, [(5, -132)])), (58, [(0, 1, (1, 30, 0)), (1, 1, (0, 0, 0)), (2, 1, (0, 0, 3)), (3, 1, (0, -2147483648, 2147483647)), (4, 1, (2, 0, 0)), (6, 1, (0, 0, 63)), (7, 1, (0, 0, 64))], [], [], (8577, [(5, -132), (6, -2)]))], 400)
def yD242 : List YD := yD_242 :: yD241
theorem yk_242 : ychk yKD (yct yCT0 yD241) xMT xFT yEX xm203 yD_242.2.1 yD_242.2.2.1 400 = true := by decide +kernel
-- IceBoatsModel.takes
def yD_243 : YD := (202, ([(1, 30, 0), (0, 0, 0), (0, 0, 3)], [], false, [(none, [])]), [], 400)
def yD243 : List YD := yD_243 :: yD242
theorem yk_243 : ychk yKD (yct yCT0 yD242) xMT xFT yEX xm202 yD_243.2.1 yD_243.2.2.1 400 = true := by decide +kernel
-- IceBoatsModel.keepsFar
def yD_244 : YD := (203, ([(1, 30, 0), (0, 0, 0), (0, 0, 5)], [], false, [(none, [])]), [(18, [(0, 1, (1, 30, 0)), (1, 1, (0, 0, 0)), (2, 1, (0, 0, 5)), (3, 1, (0, -2147483648, 2147483647)), (4, 1, (2, 0, 0)), (6, 1, (0, 0, 64))], [], [], (8579, [(5, -132)])), (58, [(0, 1, (1, 30, 0)), (1, 1, (0, 0, 0)), (2, 1, (0, 0, 5)), (3, 1, (0, -2147483648, 2147483647)), (4, 1, (2, 0, 0)), (6, 1, (0, 0, 63)), (7, 1, (0, 0, 64))], [], [], (8577, [(5, -132), (6, -2)]))], 400)
def yD244 : List YD := yD_244 :: yD243
theorem yk_244 : ychk yKD (yct yCT0 yD243) xMT xFT yEX xm203 yD_244.2.1 yD_244.2.2.1 400 = true := by decide +kernel
-- IceBoatsModel.takes
def yD_245 : YD := (202, ([(1, 30, 0), (0, 0, 0), (0, 0, 5)], [], false, [(none, [])]), [], 400)
def yD245 : List YD := yD_245 :: yD244
theorem yk_245 : ychk yKD (yct yCT0 yD244) xMT xFT yEX xm202 yD_245.2.1 yD_245.2.2.1 400 = true := by decide +kernel
-- IceBoatsModel.keepsFar
def yD_246 : YD := (203, ([(1, 30, 0), (0, 0, 0), (0, 0, 6)], [], false, [(none, [])]), [(18, [(0, 1, (1, 30, 0)), (1, 1, (0, 0, 0)), (2, 1, (0, 0, 6)), (3, 1, (0, -2147483648, 2147483647)), (4, 1, (2, 0, 0)), (6, 1, (0, 0, 64))], [], [], (8579, [(5, -132)])), (58, [(0, 1, (1, 30, 0)), (1, 1, (0, 0, 0)), (2, 1, (0, 0, 6)), (3, 1, (0, -2147483648, 2147483647)), (4, 1, (2, 0, 0)), (6, 1, (0, 0, 63)), (7, 1, (0, 0, 64))], [], [], (8577, [(5, -132), (6, -2)]))], 400)
def yD246 : List YD := yD_246 :: yD245
theorem yk_246 : ychk yKD (yct yCT0 yD245) xMT xFT yEX xm203 yD_246.2.1 yD_246.2.2.1 400 = true := by decide +kernel
-- IceBoatsModel.takes
def yD_247 : YD := (202, ([(1, 30, 0), (0, 0, 0), (0, 0, 6)], [], false, [(none, [])]), [], 400)
def yD247 : List YD := yD_247 :: yD246
theorem yk_247 : ychk yKD (yct yCT0 yD246) xMT xFT yEX xm202 yD_247.2.1 yD_247.2.2.1 400 = true := by decide +kernel
-- IceBoatsModel.keepsFar
def yD_248 : YD := (203, ([(1, 30, 0), (0, 0, 0), (0, 0, 7)], [], false, [(none, [])]), [(18, [(0, 1, (1, 30, 0)), (1, 1, (0, 0, 0)), (2, 1, (0, 0, 7)), (3, 1, (0, -2147483648, 2147483647)), (4, 1, (2, 0, 0)), (6, 1, (0, 0, 64))], [], [], (8579, [(5, -132)])), (58, [(0, 1, (1, 30, 0)), (1, 1, (0, 0, 0)), (2, 1, (0, 0, 7)), (3, 1, (0, -2147483648, 2147483647)), (4, 1, (2, 0, 0)), (6, 1, (0, 0, 63)), (7, 1, (0, 0, 64))], [], [], (8577, [(5, -132), (6, -2)]))], 400)
def yD248 : List YD := yD_248 :: yD247
theorem yk_248 : ychk yKD (yct yCT0 yD247) xMT xFT yEX xm203 yD_248.2.1 yD_248.2.2.1 400 = true := by decide +kernel
-- IceBoatsModel.takes
def yD_249 : YD := (202, ([(1, 30, 0), (0, 0, 0), (0, 0, 7)], [], false, [(none, [])]), [], 400)
def yD249 : List YD := yD_249 :: yD248
theorem yk_249 : ychk yKD (yct yCT0 yD248) xMT xFT yEX xm202 yD_249.2.1 yD_249.2.2.1 400 = true := by decide +kernel
-- IceBoatsModel.keepsFar
def yD_250 : YD := (203, ([(1, 30, 0), (0, 0, 0), (0, 0, 9)], [], false, [(none, [])]), [(18, [(0, 1, (1, 30, 0)), (1, 1, (0, 0, 0)), (2, 1, (0, 0, 9)), (3, 1, (0, -2147483648, 2147483647)), (4, 1, (2, 0, 0)), (6, 1, (0, 0, 64))], [], [], (8579, [(5, -132)])), (58, [(0, 1, (1, 30, 0)), (1, 1, (0, 0, 0)), (2, 1, (0, 0, 9)), (3, 1, (0, -2147483648, 2147483647)), (4, 1, (2, 0, 0)), (6, 1, (0, 0, 63)), (7, 1, (0, 0, 64))], [], [], (8577, [(5, -132), (6, -2)]))], 400)
def yD250 : List YD := yD_250 :: yD249
theorem yk_250 : ychk yKD (yct yCT0 yD249) xMT xFT yEX xm203 yD_250.2.1 yD_250.2.2.1 400 = true := by decide +kernel
-- IceBoatsModel.takes
def yD_251 : YD := (202, ([(1, 30, 0), (0, 0, 0), (0, 0, 9)], [], false, [(none, [])]), [], 400)
def yD251 : List YD := yD_251 :: yD250
theorem yk_251 : ychk yKD (yct yCT0 yD250) xMT xFT yEX xm202 yD_251.2.1 yD_251.2.2.1 400 = true := by decide +kernel
-- IceBoatsModel.keepsFar
def yD_252 : YD := (203, ([(1, 30, 0), (0, 0, 0), (0, 0, 13)], [], false, [(none, [])]), [(18, [(0, 1, (1, 30, 0)), (1, 1, (0, 0, 0)), (2, 1, (0, 0, 13)), (3, 1, (0, -2147483648, 2147483647)), (4, 1, (2, 0, 0)), (6, 1, (0, 0, 64))], [], [], (8579, [(5, -132)])), (58, [(0, 1, (1, 30, 0)), (1, 1, (0, 0, 0)), (2, 1, (0, 0, 13)), (3, 1, (0, -2147483648, 2147483647)), (4, 1, (2, 0, 0)), (6, 1, (0, 0, 63)), (7, 1, (0, 0, 64))], [], [], (8577, [(5, -132), (6, -2)]))], 400)
def yD252 : List YD := yD_252 :: yD251
theorem yk_252 : ychk yKD (yct yCT0 yD251) xMT xFT yEX xm203 yD_252.2.1 yD_252.2.2.1 400 = true := by decide +kernel
-- IceBoatsModel.takes
def yD_253 : YD := (202, ([(1, 30, 0), (0, 0, 0), (0, 0, 13)], [], false, [(none, [])]), [], 400)
def yD253 : List YD := yD_253 :: yD252
theorem yk_253 : ychk yKD (yct yCT0 yD252) xMT xFT yEX xm202 yD_253.2.1 yD_253.2.2.1 400 = true := by decide +kernel
-- IceBoatsModel.keepsFar
def yD_254 : YD := (203, ([(1, 30, 0), (0, 0, 0), (0, 0, 14)], [], false, [(none, [])]), [(18, [(0, 1, (1, 30, 0)), (1, 1, (0, 0, 0)), (2, 1, (0, 0, 14)), (3, 1, (0, -2147483648, 2147483647)), (4, 1, (2, 0, 0)), (6, 1, (0, 0, 64))], [], [], (8579, [(5, -132)])), (58, [(0, 1, (1, 30, 0)), (1, 1, (0, 0, 0)), (2, 1, (0, 0, 14)), (3, 1, (0, -2147483648, 2147483647)), (4, 1, (2, 0, 0)), (6, 1, (0, 0, 63)), (7, 1, (0, 0, 64))], [], [], (8577, [(5, -132), (6, -2)]))], 400)
def yD254 : List YD := yD_254 :: yD253
theorem yk_254 : ychk yKD (yct yCT0 yD253) xMT xFT yEX xm203 yD_254.2.1 yD_254.2.2.1 400 = true := by decide +kernel
-- IceBoatsModel.takes
def yD_255 : YD := (202, ([(1, 30, 0), (0, 0, 0), (0, 0, 14)], [], false, [(none, [])]), [], 400)
def yD255 : List YD := yD_255 :: yD254
theorem yk_255 : ychk yKD (yct yCT0 yD254) xMT xFT yEX xm202 yD_255.2.1 yD_255.2.2.1 400 = true := by decide +kernel
-- IceBoatsModel.keepsFar
def yD_256 : YD := (203, ([(1, 30, 0), (0, 0, 0), (0, 0, 15)], [], false, [(none, [])]), [(18, [(0, 1, (1, 30, 0)), (1, 1, (0, 0, 0)), (2, 1, (0, 0, 15)), (3, 1, (0, -2147483648, 2147483647)), (4, 1, (2, 0, 0)), (6, 1, (0, 0, 64))], [], [], (8579, [(5, -132)])), (58, [(0, 1, (1, 30, 0)), (1, 1, (0, 0, 0)), (2, 1, (0, 0, 15)), (3, 1, (0, -2147483648, 2147483647)), (4, 1, (2, 0, 0)), (6, 1, (0, 0, 63)), (7, 1, (0, 0, 64))], [], [], (8577, [(5, -132), (6, -2)]))], 400)
def yD256 : List YD := yD_256 :: yD255
theorem yk_256 : ychk yKD (yct yCT0 yD255) xMT xFT yEX xm203 yD_256.2.1 yD_256.2.2.1 400 = true := by decide +kernel
-- IceBoatsModel.takes
def yD_257 : YD := (202, ([(1, 30, 0), (0, 0, 0), (0, 0, 15)], [], false, [(none, [])]), [], 400)
def yD257 : List YD := yD_257 :: yD256
theorem yk_257 : ychk yKD (yct yCT0 yD256) xMT xFT yEX xm202 yD_257.2.1 yD_257.2.2.1 400 = true := by decide +kernel
-- IceBoatsModel.keepsFar
def yD_258 : YD := (203, ([(1, 30, 0), (0, 0, 0), (0, 0, 16)], [], false, [(none, [])]), [(18, [(0, 1, (1, 30, 0)), (1, 1, (0, 0, 0)), (2, 1, (0, 0, 16)), (3, 1, (0, -2147483648, 2147483647)), (4, 1, (2, 0, 0)), (6, 1, (0, 0, 64))], [], [], (8579, [(5, -132)])), (58, [(0, 1, (1, 30, 0)), (1, 1, (0, 0, 0)), (2, 1, (0, 0, 16)), (3, 1, (0, -2147483648, 2147483647)), (4, 1, (2, 0, 0)), (6, 1, (0, 0, 63)), (7, 1, (0, 0, 64))], [], [], (8577, [(5, -132), (6, -2)]))], 400)
def yD258 : List YD := yD_258 :: yD257
theorem yk_258 : ychk yKD (yct yCT0 yD257) xMT xFT yEX xm203 yD_258.2.1 yD_258.2.2.1 400 = true := by decide +kernel
-- IceBoatsModel.takes
def yD_259 : YD := (202, ([(1, 30, 0), (0, 0, 0), (0, 0, 16)], [], false, [(none, [])]), [], 400)
def yD259 : List YD := yD_259 :: yD258
theorem yk_259 : ychk yKD (yct yCT0 yD258) xMT xFT yEX xm202 yD_259.2.1 yD_259.2.2.1 400 = true := by decide +kernel
-- IceBoatsModel.keepsFar
def yD_260 : YD := (203, ([(1, 30, 0), (0, 0, 0), (0, 0, 20)], [], false, [(none, [])]), [(18, [(0, 1, (1, 30, 0)), (1, 1, (0, 0, 0)), (2, 1, (0, 0, 20)), (3, 1, (0, -2147483648, 2147483647)), (4, 1, (2, 0, 0)), (6, 1, (0, 0, 64))], [], [], (8579, [(5, -132)])), (58, [(0, 1, (1, 30, 0)), (1, 1, (0, 0, 0)), (2, 1, (0, 0, 20)), (3, 1, (0, -2147483648, 2147483647)), (4, 1, (2, 0, 0)), (6, 1, (0, 0, 63)), (7, 1, (0, 0, 64))], [], [], (8577, [(5, -132), (6, -2)]))], 400)
def yD260 : List YD := yD_260 :: yD259
theorem yk_260 : ychk yKD (yct yCT0 yD259) xMT xFT yEX xm203 yD_260.2.1 yD_260.2.2.1 400 = true := by decide +kernel
-- IceBoatsModel.takes
def yD_261 : YD := (202, ([(1, 30, 0), (0, 0, 0), (0, 0, 20)], [], false, [(none, [])]), [], 400)
def yD261 : List YD := yD_261 :: yD260
theorem yk_261 : ychk yKD (yct yCT0 yD260) xMT xFT yEX xm202 yD_261.2.1 yD_261.2.2.1 400 = true := by decide +kernel
-- IceBoatsModel.keepsFar
def yD_262 : YD := (203, ([(1, 30, 0), (0, 0, 0), (0, 0, 21)], [], false, [(none, [])]), [(18, [(0, 1, (1, 30, 0)), (1, 1, (0, 0, 0)), (2, 1, (0, 0, 21)), (3, 1, (0, -2147483648, 2147483647)), (4, 1, (2, 0, 0)), (6, 1, (0, 0, 64))], [], [], (8579, [(5, -132)])), (58, [(0, 1, (1, 30, 0)), (1, 1, (0, 0, 0)), (2, 1, (0, 0, 21)), (3, 1, (0, -2147483648, 2147483647)), (4, 1, (2, 0, 0)), (6, 1, (0, 0, 63)), (7, 1, (0, 0, 64))], [], [], (8577, [(5, -132), (6, -2)]))], 400)
def yD262 : List YD := yD_262 :: yD261
theorem yk_262 : ychk yKD (yct yCT0 yD261) xMT xFT yEX xm203 yD_262.2.1 yD_262.2.2.1 400 = true := by decide +kernel
-- IceBoatsModel.takes
def yD_263 : YD := (202, ([(1, 30, 0), (0, 0, 0), (0, 0, 21)], [], false, [(none, [])]), [], 400)
def yD263 : List YD := yD_263 :: yD262
theorem yk_263 : ychk yKD (yct yCT0 yD262) xMT xFT yEX xm202 yD_263.2.1 yD_263.2.2.1 400 = true := by decide +kernel
-- IceBoatsModel.keepsFar
def yD_264 : YD := (203, ([(1, 30, 0), (0, 0, 0), (0, 0, 24)], [], false, [(none, [])]), [(18, [(0, 1, (1, 30, 0)), (1, 1, (0, 0, 0)), (2, 1, (0, 0, 24)), (3, 1, (0, -2147483648, 2147483647)), (4, 1, (2, 0, 0)), (6, 1, (0, 0, 64))], [], [], (8579, [(5, -132)])), (58, [(0, 1, (1, 30, 0)), (1, 1, (0, 0, 0)), (2, 1, (0, 0, 24)), (3, 1, (0, -2147483648, 2147483647)), (4, 1, (2, 0, 0)), (6, 1, (0, 0, 63)), (7, 1, (0, 0, 64))], [], [], (8577, [(5, -132), (6, -2)]))], 400)
def yD264 : List YD := yD_264 :: yD263
theorem yk_264 : ychk yKD (yct yCT0 yD263) xMT xFT yEX xm203 yD_264.2.1 yD_264.2.2.1 400 = true := by decide +kernel
-- IceBoatsModel.takes
def yD_265 : YD := (202, ([(1, 30, 0), (0, 0, 0), (0, 0, 24)], [], false, [(none, [])]), [], 400)
def yD265 : List YD := yD_265 :: yD264
theorem yk_265 : ychk yKD (yct yCT0 yD264) xMT xFT yEX xm202 yD_265.2.1 yD_265.2.2.1 400 = true := by decide +kernel
-- IceBoatsModel.keepsFar
def yD_266 : YD := (203, ([(1, 30, 0), (0, 0, 0), (0, 0, 36)], [], false, [(none, [])]), [(18, [(0, 1, (1, 30, 0)), (1, 1, (0, 0, 0)), (2, 1, (0, 0, 36)), (3, 1, (0, -2147483648, 2147483647)), (4, 1, (2, 0, 0)), (6, 1, (0, 0, 64))], [], [], (8579, [(5, -132)])), (58, [(0, 1, (1, 30, 0)), (1, 1, (0, 0, 0)), (2, 1, (0, 0, 36)), (3, 1, (0, -2147483648, 2147483647)), (4, 1, (2, 0, 0)), (6, 1, (0, 0, 63)), (7, 1, (0, 0, 64))], [], [], (8577, [(5, -132), (6, -2)]))], 400)
def yD266 : List YD := yD_266 :: yD265
theorem yk_266 : ychk yKD (yct yCT0 yD265) xMT xFT yEX xm203 yD_266.2.1 yD_266.2.2.1 400 = true := by decide +kernel
-- IceBoatsModel.takes
def yD_267 : YD := (202, ([(1, 30, 0), (0, 0, 0), (0, 0, 36)], [], false, [(none, [])]), [], 400)
def yD267 : List YD := yD_267 :: yD266
theorem yk_267 : ychk yKD (yct yCT0 yD266) xMT xFT yEX xm202 yD_267.2.1 yD_267.2.2.1 400 = true := by decide +kernel
-- IceBoatsModel.keepsFar
def yD_268 : YD := (203, ([(1, 30, 0), (0, 0, 0), (0, 0, 39)], [], false, [(none, [])]), [(18, [(0, 1, (1, 30, 0)), (1, 1, (0, 0, 0)), (2, 1, (0, 0, 39)), (3, 1, (0, -2147483648, 2147483647)), (4, 1, (2, 0, 0)), (6, 1, (0, 0, 64))], [], [], (8579, [(5, -132)])), (58, [(0, 1, (1, 30, 0)), (1, 1, (0, 0, 0)), (2, 1, (0, 0, 39)), (3, 1, (0, -2147483648, 2147483647)), (4, 1, (2, 0, 0)), (6, 1, (0, 0, 63)), (7, 1, (0, 0, 64))], [], [], (8577, [(5, -132), (6, -2)]))], 400)
def yD268 : List YD := yD_268 :: yD267
theorem yk_268 : ychk yKD (yct yCT0 yD267) xMT xFT yEX xm203 yD_268.2.1 yD_268.2.2.1 400 = true := by decide +kernel
-- IceBoatsModel.takes
def yD_269 : YD := (202, ([(1, 30, 0), (0, 0, 0), (0, 0, 39)], [], false, [(none, [])]), [], 400)
def yD269 : List YD := yD_269 :: yD268
theorem yk_269 : ychk yKD (yct yCT0 yD268) xMT xFT yEX xm202 yD_269.2.1 yD_269.2.2.1 400 = true := by decide +kernel
-- IceBoatsModel.hears
def yD_270 : YD := (201, ([(1, 30, 0), (0, 0, 0)], [], false, [(some (.inr (0, [])), []), (some (.inr (1, [])), [])]), [(51, [(0, 1, (1, 30, 0)), (1, 1, (0, 0, 0)), (2, 1, (0, -2147483648, 2147483647)), (3, 1, (0, 0, 39)), (4, 1, (0, 0, 40))], [(0, 6, (0, 0, 999)), (0, 36, (0, 1, 40)), (0, 42, (1, 63, 0))], [(-1, [(1, -1), (6, 1)]), (-1, [(3, -1), (6, 1)])], (81, [(4, -2)])), (51, [(0, 1, (1, 30, 0)), (1, 1, (0, 0, 0)), (2, 1, (0, 0, 0)), (3, 1, (0, -9, -9)), (4, 1, (0, 0, 40))], [(0, 36, (0, 0, 40))], [(-1, [(3, -1), (5, 1)])], (81, [(4, -2)])), (8, [(0, 1, (1, 30, 0)), (1, 1, (0, 0, 0)), (2, 1, (0, -2147483648, 2147483647)), (3, 1, (0, 0, 39)), (4, 1, (0, 1, 40))], [(0, 6, (0, 0, 999)), (0, 36, (0, 1, 40)), (0, 42, (1, 63, 0))], [(-1, [(1, -1), (6, 1)]), (-1, [(3, -1), (6, 1)])], (163, [(4, -2)])), (8, [(0, 1, (1, 30, 0)), (1, 1, (0, 0, 0)), (2, 1, (0, 0, 0)), (3, 1, (0, -9, -9)), (4, 1, (0, 0, 40))], [], [], (163, [(4, -2)]))], 400)
def yD270 : List YD := yD_270 :: yD269
theorem yk_270 : ychk yKD (yct yCT0 yD269) xMT xFT yEX xm201 yD_270.2.1 yD_270.2.2.1 400 = true := by decide +kernel
-- IceBoatsModel.nearer
def yD_271 : YD := (204, ([(1, 30, 0), (0, 0, 1), (0, 0, 63)], [], true, [(some (.inl (0, 0, 4)), [])]), [(13, [(0, 1, (1, 30, 0)), (1, 1, (0, 0, 1)), (2, 1, (0, 0, 63)), (3, 1, (0, 0, 63)), (4, 1, (0, 1, 5))], [(0, 23, (1, 46, 0))], [], (11, [(4, -2)]))], 400)
def yD271 : List YD := yD_271 :: yD270
theorem yk_271 : ychk yKD (yct yCT0 yD270) xMT xFT yEX xm204 yD_271.2.1 yD_271.2.2.1 400 = true := by decide +kernel
-- IceBoatsModel.keepsFar
def yD_272 : YD := (203, ([(1, 30, 0), (0, 0, 1), (0, 0, 0)], [], false, [(none, [])]), [(18, [(0, 1, (1, 30, 0)), (1, 1, (0, 0, 1)), (2, 1, (0, 0, 0)), (3, 1, (0, -2147483648, 2147483647)), (4, 1, (2, 0, 0)), (6, 1, (0, 0, 64))], [], [], (8579, [(5, -132)])), (58, [(0, 1, (1, 30, 0)), (1, 1, (0, 0, 1)), (2, 1, (0, 0, 0)), (3, 1, (0, -2147483648, 2147483647)), (4, 1, (2, 0, 0)), (6, 1, (0, 0, 63)), (7, 1, (0, 0, 64))], [], [], (8577, [(5, -132), (6, -2)]))], 400)
def yD272 : List YD := yD_272 :: yD271
theorem yk_272 : ychk yKD (yct yCT0 yD271) xMT xFT yEX xm203 yD_272.2.1 yD_272.2.2.1 400 = true := by decide +kernel
-- IceBoatsModel.takes
def yD_273 : YD := (202, ([(1, 30, 0), (0, 0, 1), (0, 0, 0)], [], false, [(none, [])]), [], 400)
def yD273 : List YD := yD_273 :: yD272
theorem yk_273 : ychk yKD (yct yCT0 yD272) xMT xFT yEX xm202 yD_273.2.1 yD_273.2.2.1 400 = true := by decide +kernel
-- IceBoatsModel.keepsFar
def yD_274 : YD := (203, ([(1, 30, 0), (0, 0, 1), (0, 0, 1)], [], false, [(none, [])]), [(18, [(0, 1, (1, 30, 0)), (1, 1, (0, 0, 1)), (2, 1, (0, 0, 1)), (3, 1, (0, -2147483648, 2147483647)), (4, 1, (2, 0, 0)), (6, 1, (0, 0, 64))], [], [], (8579, [(5, -132)])), (58, [(0, 1, (1, 30, 0)), (1, 1, (0, 0, 1)), (2, 1, (0, 0, 1)), (3, 1, (0, -2147483648, 2147483647)), (4, 1, (2, 0, 0)), (6, 1, (0, 0, 63)), (7, 1, (0, 0, 64))], [], [], (8577, [(5, -132), (6, -2)]))], 400)
def yD274 : List YD := yD_274 :: yD273
theorem yk_274 : ychk yKD (yct yCT0 yD273) xMT xFT yEX xm203 yD_274.2.1 yD_274.2.2.1 400 = true := by decide +kernel
-- IceBoatsModel.takes
def yD_275 : YD := (202, ([(1, 30, 0), (0, 0, 1), (0, 0, 1)], [], false, [(none, [])]), [], 400)
def yD275 : List YD := yD_275 :: yD274
theorem yk_275 : ychk yKD (yct yCT0 yD274) xMT xFT yEX xm202 yD_275.2.1 yD_275.2.2.1 400 = true := by decide +kernel
-- IceBoatsModel.keepsFar
def yD_276 : YD := (203, ([(1, 30, 0), (0, 0, 1), (0, 0, 3)], [], false, [(none, [])]), [(18, [(0, 1, (1, 30, 0)), (1, 1, (0, 0, 1)), (2, 1, (0, 0, 3)), (3, 1, (0, -2147483648, 2147483647)), (4, 1, (2, 0, 0)), (6, 1, (0, 0, 64))], [], [], (8579, [(5, -132)])), (58, [(0, 1, (1, 30, 0)), (1, 1, (0, 0, 1)), (2, 1, (0, 0, 3)), (3, 1, (0, -2147483648, 2147483647)), (4, 1, (2, 0, 0)), (6, 1, (0, 0, 63)), (7, 1, (0, 0, 64))], [], [], (8577, [(5, -132), (6, -2)]))], 400)
def yD276 : List YD := yD_276 :: yD275
theorem yk_276 : ychk yKD (yct yCT0 yD275) xMT xFT yEX xm203 yD_276.2.1 yD_276.2.2.1 400 = true := by decide +kernel
-- IceBoatsModel.takes
def yD_277 : YD := (202, ([(1, 30, 0), (0, 0, 1), (0, 0, 3)], [], false, [(none, [])]), [], 400)
def yD277 : List YD := yD_277 :: yD276
theorem yk_277 : ychk yKD (yct yCT0 yD276) xMT xFT yEX xm202 yD_277.2.1 yD_277.2.2.1 400 = true := by decide +kernel
-- IceBoatsModel.keepsFar
def yD_278 : YD := (203, ([(1, 30, 0), (0, 0, 1), (0, 0, 5)], [], false, [(none, [])]), [(18, [(0, 1, (1, 30, 0)), (1, 1, (0, 0, 1)), (2, 1, (0, 0, 5)), (3, 1, (0, -2147483648, 2147483647)), (4, 1, (2, 0, 0)), (6, 1, (0, 0, 64))], [], [], (8579, [(5, -132)])), (58, [(0, 1, (1, 30, 0)), (1, 1, (0, 0, 1)), (2, 1, (0, 0, 5)), (3, 1, (0, -2147483648, 2147483647)), (4, 1, (2, 0, 0)), (6, 1, (0, 0, 63)), (7, 1, (0, 0, 64))], [], [], (8577, [(5, -132), (6, -2)]))], 400)
def yD278 : List YD := yD_278 :: yD277
theorem yk_278 : ychk yKD (yct yCT0 yD277) xMT xFT yEX xm203 yD_278.2.1 yD_278.2.2.1 400 = true := by decide +kernel
-- IceBoatsModel.takes
def yD_279 : YD := (202, ([(1, 30, 0), (0, 0, 1), (0, 0, 5)], [], false, [(none, [])]), [], 400)
def yD279 : List YD := yD_279 :: yD278
theorem yk_279 : ychk yKD (yct yCT0 yD278) xMT xFT yEX xm202 yD_279.2.1 yD_279.2.2.1 400 = true := by decide +kernel
-- IceBoatsModel.keepsFar
def yD_280 : YD := (203, ([(1, 30, 0), (0, 0, 1), (0, 0, 6)], [], false, [(none, [])]), [(18, [(0, 1, (1, 30, 0)), (1, 1, (0, 0, 1)), (2, 1, (0, 0, 6)), (3, 1, (0, -2147483648, 2147483647)), (4, 1, (2, 0, 0)), (6, 1, (0, 0, 64))], [], [], (8579, [(5, -132)])), (58, [(0, 1, (1, 30, 0)), (1, 1, (0, 0, 1)), (2, 1, (0, 0, 6)), (3, 1, (0, -2147483648, 2147483647)), (4, 1, (2, 0, 0)), (6, 1, (0, 0, 63)), (7, 1, (0, 0, 64))], [], [], (8577, [(5, -132), (6, -2)]))], 400)
def yD280 : List YD := yD_280 :: yD279
theorem yk_280 : ychk yKD (yct yCT0 yD279) xMT xFT yEX xm203 yD_280.2.1 yD_280.2.2.1 400 = true := by decide +kernel
-- IceBoatsModel.takes
def yD_281 : YD := (202, ([(1, 30, 0), (0, 0, 1), (0, 0, 6)], [], false, [(none, [])]), [], 400)
def yD281 : List YD := yD_281 :: yD280
theorem yk_281 : ychk yKD (yct yCT0 yD280) xMT xFT yEX xm202 yD_281.2.1 yD_281.2.2.1 400 = true := by decide +kernel
-- IceBoatsModel.keepsFar
def yD_282 : YD := (203, ([(1, 30, 0), (0, 0, 1), (0, 0, 7)], [], false, [(none, [])]), [(18, [(0, 1, (1, 30, 0)), (1, 1, (0, 0, 1)), (2, 1, (0, 0, 7)), (3, 1, (0, -2147483648, 2147483647)), (4, 1, (2, 0, 0)), (6, 1, (0, 0, 64))], [], [], (8579, [(5, -132)])), (58, [(0, 1, (1, 30, 0)), (1, 1, (0, 0, 1)), (2, 1, (0, 0, 7)), (3, 1, (0, -2147483648, 2147483647)), (4, 1, (2, 0, 0)), (6, 1, (0, 0, 63)), (7, 1, (0, 0, 64))], [], [], (8577, [(5, -132), (6, -2)]))], 400)
def yD282 : List YD := yD_282 :: yD281
theorem yk_282 : ychk yKD (yct yCT0 yD281) xMT xFT yEX xm203 yD_282.2.1 yD_282.2.2.1 400 = true := by decide +kernel
-- IceBoatsModel.takes
def yD_283 : YD := (202, ([(1, 30, 0), (0, 0, 1), (0, 0, 7)], [], false, [(none, [])]), [], 400)
def yD283 : List YD := yD_283 :: yD282
theorem yk_283 : ychk yKD (yct yCT0 yD282) xMT xFT yEX xm202 yD_283.2.1 yD_283.2.2.1 400 = true := by decide +kernel
-- IceBoatsModel.keepsFar
def yD_284 : YD := (203, ([(1, 30, 0), (0, 0, 1), (0, 0, 9)], [], false, [(none, [])]), [(18, [(0, 1, (1, 30, 0)), (1, 1, (0, 0, 1)), (2, 1, (0, 0, 9)), (3, 1, (0, -2147483648, 2147483647)), (4, 1, (2, 0, 0)), (6, 1, (0, 0, 64))], [], [], (8579, [(5, -132)])), (58, [(0, 1, (1, 30, 0)), (1, 1, (0, 0, 1)), (2, 1, (0, 0, 9)), (3, 1, (0, -2147483648, 2147483647)), (4, 1, (2, 0, 0)), (6, 1, (0, 0, 63)), (7, 1, (0, 0, 64))], [], [], (8577, [(5, -132), (6, -2)]))], 400)
def yD284 : List YD := yD_284 :: yD283
theorem yk_284 : ychk yKD (yct yCT0 yD283) xMT xFT yEX xm203 yD_284.2.1 yD_284.2.2.1 400 = true := by decide +kernel
-- IceBoatsModel.takes
def yD_285 : YD := (202, ([(1, 30, 0), (0, 0, 1), (0, 0, 9)], [], false, [(none, [])]), [], 400)
def yD285 : List YD := yD_285 :: yD284
theorem yk_285 : ychk yKD (yct yCT0 yD284) xMT xFT yEX xm202 yD_285.2.1 yD_285.2.2.1 400 = true := by decide +kernel
-- IceBoatsModel.keepsFar
def yD_286 : YD := (203, ([(1, 30, 0), (0, 0, 1), (0, 0, 13)], [], false, [(none, [])]), [(18, [(0, 1, (1, 30, 0)), (1, 1, (0, 0, 1)), (2, 1, (0, 0, 13)), (3, 1, (0, -2147483648, 2147483647)), (4, 1, (2, 0, 0)), (6, 1, (0, 0, 64))], [], [], (8579, [(5, -132)])), (58, [(0, 1, (1, 30, 0)), (1, 1, (0, 0, 1)), (2, 1, (0, 0, 13)), (3, 1, (0, -2147483648, 2147483647)), (4, 1, (2, 0, 0)), (6, 1, (0, 0, 63)), (7, 1, (0, 0, 64))], [], [], (8577, [(5, -132), (6, -2)]))], 400)
def yD286 : List YD := yD_286 :: yD285
theorem yk_286 : ychk yKD (yct yCT0 yD285) xMT xFT yEX xm203 yD_286.2.1 yD_286.2.2.1 400 = true := by decide +kernel
-- IceBoatsModel.takes
def yD_287 : YD := (202, ([(1, 30, 0), (0, 0, 1), (0, 0, 13)], [], false, [(none, [])]), [], 400)
def yD287 : List YD := yD_287 :: yD286
theorem yk_287 : ychk yKD (yct yCT0 yD286) xMT xFT yEX xm202 yD_287.2.1 yD_287.2.2.1 400 = true := by decide +kernel
-- IceBoatsModel.keepsFar
def yD_288 : YD := (203, ([(1, 30, 0), (0, 0, 1), (0, 0, 14)], [], false, [(none, [])]), [(18, [(0, 1, (1, 30, 0)), (1, 1, (0, 0, 1)), (2, 1, (0, 0, 14)), (3, 1, (0, -2147483648, 2147483647)), (4, 1, (2, 0, 0)), (6, 1, (0, 0, 64))], [], [], (8579, [(5, -132)])), (58, [(0, 1, (1, 30, 0)), (1, 1, (0, 0, 1)), (2, 1, (0, 0, 14)), (3, 1, (0, -2147483648, 2147483647)), (4, 1, (2, 0, 0)), (6, 1, (0, 0, 63)), (7, 1, (0, 0, 64))], [], [], (8577, [(5, -132), (6, -2)]))], 400)
def yD288 : List YD := yD_288 :: yD287
theorem yk_288 : ychk yKD (yct yCT0 yD287) xMT xFT yEX xm203 yD_288.2.1 yD_288.2.2.1 400 = true := by decide +kernel
-- IceBoatsModel.takes
def yD_289 : YD := (202, ([(1, 30, 0), (0, 0, 1), (0, 0, 14)], [], false, [(none, [])]), [], 400)
def yD289 : List YD := yD_289 :: yD288
theorem yk_289 : ychk yKD (yct yCT0 yD288) xMT xFT yEX xm202 yD_289.2.1 yD_289.2.2.1 400 = true := by decide +kernel
-- IceBoatsModel.keepsFar
def yD_290 : YD := (203, ([(1, 30, 0), (0, 0, 1), (0, 0, 15)], [], false, [(none, [])]), [(18, [(0, 1, (1, 30, 0)), (1, 1, (0, 0, 1)), (2, 1, (0, 0, 15)), (3, 1, (0, -2147483648, 2147483647)), (4, 1, (2, 0, 0)), (6, 1, (0, 0, 64))], [], [], (8579, [(5, -132)])), (58, [(0, 1, (1, 30, 0)), (1, 1, (0, 0, 1)), (2, 1, (0, 0, 15)), (3, 1, (0, -2147483648, 2147483647)), (4, 1, (2, 0, 0)), (6, 1, (0, 0, 63)), (7, 1, (0, 0, 64))], [], [], (8577, [(5, -132), (6, -2)]))], 400)
def yD290 : List YD := yD_290 :: yD289
theorem yk_290 : ychk yKD (yct yCT0 yD289) xMT xFT yEX xm203 yD_290.2.1 yD_290.2.2.1 400 = true := by decide +kernel
-- IceBoatsModel.takes
def yD_291 : YD := (202, ([(1, 30, 0), (0, 0, 1), (0, 0, 15)], [], false, [(none, [])]), [], 400)
def yD291 : List YD := yD_291 :: yD290
theorem yk_291 : ychk yKD (yct yCT0 yD290) xMT xFT yEX xm202 yD_291.2.1 yD_291.2.2.1 400 = true := by decide +kernel
-- IceBoatsModel.keepsFar
def yD_292 : YD := (203, ([(1, 30, 0), (0, 0, 1), (0, 0, 16)], [], false, [(none, [])]), [(18, [(0, 1, (1, 30, 0)), (1, 1, (0, 0, 1)), (2, 1, (0, 0, 16)), (3, 1, (0, -2147483648, 2147483647)), (4, 1, (2, 0, 0)), (6, 1, (0, 0, 64))], [], [], (8579, [(5, -132)])), (58, [(0, 1, (1, 30, 0)), (1, 1, (0, 0, 1)), (2, 1, (0, 0, 16)), (3, 1, (0, -2147483648, 2147483647)), (4, 1, (2, 0, 0)), (6, 1, (0, 0, 63)), (7, 1, (0, 0, 64))], [], [], (8577, [(5, -132), (6, -2)]))], 400)
def yD292 : List YD := yD_292 :: yD291
theorem yk_292 : ychk yKD (yct yCT0 yD291) xMT xFT yEX xm203 yD_292.2.1 yD_292.2.2.1 400 = true := by decide +kernel
-- IceBoatsModel.takes
def yD_293 : YD := (202, ([(1, 30, 0), (0, 0, 1), (0, 0, 16)], [], false, [(none, [])]), [], 400)
def yD293 : List YD := yD_293 :: yD292
theorem yk_293 : ychk yKD (yct yCT0 yD292) xMT xFT yEX xm202 yD_293.2.1 yD_293.2.2.1 400 = true := by decide +kernel
-- IceBoatsModel.keepsFar
def yD_294 : YD := (203, ([(1, 30, 0), (0, 0, 1), (0, 0, 20)], [], false, [(none, [])]), [(18, [(0, 1, (1, 30, 0)), (1, 1, (0, 0, 1)), (2, 1, (0, 0, 20)), (3, 1, (0, -2147483648, 2147483647)), (4, 1, (2, 0, 0)), (6, 1, (0, 0, 64))], [], [], (8579, [(5, -132)])), (58, [(0, 1, (1, 30, 0)), (1, 1, (0, 0, 1)), (2, 1, (0, 0, 20)), (3, 1, (0, -2147483648, 2147483647)), (4, 1, (2, 0, 0)), (6, 1, (0, 0, 63)), (7, 1, (0, 0, 64))], [], [], (8577, [(5, -132), (6, -2)]))], 400)
def yD294 : List YD := yD_294 :: yD293
theorem yk_294 : ychk yKD (yct yCT0 yD293) xMT xFT yEX xm203 yD_294.2.1 yD_294.2.2.1 400 = true := by decide +kernel
-- IceBoatsModel.takes
def yD_295 : YD := (202, ([(1, 30, 0), (0, 0, 1), (0, 0, 20)], [], false, [(none, [])]), [], 400)
def yD295 : List YD := yD_295 :: yD294
theorem yk_295 : ychk yKD (yct yCT0 yD294) xMT xFT yEX xm202 yD_295.2.1 yD_295.2.2.1 400 = true := by decide +kernel
-- IceBoatsModel.keepsFar
def yD_296 : YD := (203, ([(1, 30, 0), (0, 0, 1), (0, 0, 21)], [], false, [(none, [])]), [(18, [(0, 1, (1, 30, 0)), (1, 1, (0, 0, 1)), (2, 1, (0, 0, 21)), (3, 1, (0, -2147483648, 2147483647)), (4, 1, (2, 0, 0)), (6, 1, (0, 0, 64))], [], [], (8579, [(5, -132)])), (58, [(0, 1, (1, 30, 0)), (1, 1, (0, 0, 1)), (2, 1, (0, 0, 21)), (3, 1, (0, -2147483648, 2147483647)), (4, 1, (2, 0, 0)), (6, 1, (0, 0, 63)), (7, 1, (0, 0, 64))], [], [], (8577, [(5, -132), (6, -2)]))], 400)
def yD296 : List YD := yD_296 :: yD295
theorem yk_296 : ychk yKD (yct yCT0 yD295) xMT xFT yEX xm203 yD_296.2.1 yD_296.2.2.1 400 = true := by decide +kernel
-- IceBoatsModel.takes
def yD_297 : YD := (202, ([(1, 30, 0), (0, 0, 1), (0, 0, 21)], [], false, [(none, [])]), [], 400)
def yD297 : List YD := yD_297 :: yD296
theorem yk_297 : ychk yKD (yct yCT0 yD296) xMT xFT yEX xm202 yD_297.2.1 yD_297.2.2.1 400 = true := by decide +kernel
-- IceBoatsModel.keepsFar
def yD_298 : YD := (203, ([(1, 30, 0), (0, 0, 1), (0, 0, 24)], [], false, [(none, [])]), [(18, [(0, 1, (1, 30, 0)), (1, 1, (0, 0, 1)), (2, 1, (0, 0, 24)), (3, 1, (0, -2147483648, 2147483647)), (4, 1, (2, 0, 0)), (6, 1, (0, 0, 64))], [], [], (8579, [(5, -132)])), (58, [(0, 1, (1, 30, 0)), (1, 1, (0, 0, 1)), (2, 1, (0, 0, 24)), (3, 1, (0, -2147483648, 2147483647)), (4, 1, (2, 0, 0)), (6, 1, (0, 0, 63)), (7, 1, (0, 0, 64))], [], [], (8577, [(5, -132), (6, -2)]))], 400)
def yD298 : List YD := yD_298 :: yD297
theorem yk_298 : ychk yKD (yct yCT0 yD297) xMT xFT yEX xm203 yD_298.2.1 yD_298.2.2.1 400 = true := by decide +kernel
-- IceBoatsModel.takes
def yD_299 : YD := (202, ([(1, 30, 0), (0, 0, 1), (0, 0, 24)], [], false, [(none, [])]), [], 400)
def yD299 : List YD := yD_299 :: yD298
theorem yk_299 : ychk yKD (yct yCT0 yD298) xMT xFT yEX xm202 yD_299.2.1 yD_299.2.2.1 400 = true := by decide +kernel
-- IceBoatsModel.keepsFar
def yD_300 : YD := (203, ([(1, 30, 0), (0, 0, 1), (0, 0, 36)], [], false, [(none, [])]), [(18, [(0, 1, (1, 30, 0)), (1, 1, (0, 0, 1)), (2, 1, (0, 0, 36)), (3, 1, (0, -2147483648, 2147483647)), (4, 1, (2, 0, 0)), (6, 1, (0, 0, 64))], [], [], (8579, [(5, -132)])), (58, [(0, 1, (1, 30, 0)), (1, 1, (0, 0, 1)), (2, 1, (0, 0, 36)), (3, 1, (0, -2147483648, 2147483647)), (4, 1, (2, 0, 0)), (6, 1, (0, 0, 63)), (7, 1, (0, 0, 64))], [], [], (8577, [(5, -132), (6, -2)]))], 400)
def yD300 : List YD := yD_300 :: yD299
theorem yk_300 : ychk yKD (yct yCT0 yD299) xMT xFT yEX xm203 yD_300.2.1 yD_300.2.2.1 400 = true := by decide +kernel
