/-! ===== contracts: data and checks ===== -/
def yD0 : List YD := []
-- IceBoats.rowAt
def yD_1 : YD := (9, ([(1, 0, 0), (0, -2147483648, 2147483647)], [], true, [(some (.inl (1, 3, 0)), [(0, [(1, 1)]), (5, [(1, -1)])]), (some (.inl (3, 0, 0)), [(-6, [(1, 1)])]), (some (.inl (3, 0, 0)), [(-1, [(1, -1)])])]), [], 400)
def yD1 : List YD := yD_1 :: yD0
theorem yk_1 : ychk yKD (yct yCT0 yD0) xMT xFT yEX xm9 yD_1.2.1 yD_1.2.2.1 400 = true := by decide +kernel
-- IceBoats.found
def yD_2 : YD := (10, ([(1, 0, 0), (0, 1, 5)], [], false, [(some (.inr (-3, [])), [])]), [], 400)
def yD2 : List YD := yD_2 :: yD1
theorem yk_2 : ychk yKD (yct yCT0 yD1) xMT xFT yEX xm10 yD_2.2.1 yD_2.2.2.1 400 = true := by decide +kernel
-- IceBoats$Row.beAnew
def yD_3 : YD := (11, ([(1, 3, 0), (0, 0, 40), (0, 0, 0)], [], false, [(none, [])]), [(7, [(0, 1, (1, 3, 0)), (1, 1, (0, 0, 40)), (2, 1, (0, 0, 0)), (3, 1, (0, 0, 40))], [(0, 1, (0, 0, 40))], [], (81, [(3, -2)]))], 400)
def yD3 : List YD := yD_3 :: yD2
theorem yk_3 : ychk yKD (yct yCT0 yD2) xMT xFT yEX xm11 yD_3.2.1 yD_3.2.2.1 400 = true := by decide +kernel
-- IceBoats.row
def yD_4 : YD := (8, ([(1, 0, 0), (0, -2147483648, 2147483647), (0, -2147483648, 2147483647)], [], false, [(some (.inr (-1, [])), [(-1, [(1, -1)])]), (some (.inr (-1, [])), [(-6, [(1, 1)])]), (some (.inr (-1, [])), [(-41, [(2, 1)]), (0, [(1, 1)]), (5, [(1, -1)])]), (some (.inr (-3, [])), [(-1, [(2, -1)]), (0, [(1, 1)]), (5, [(1, -1)])]), (some (.inr (0, [(2, 1)])), [(0, [(1, 1)]), (0, [(2, 1)]), (5, [(1, -1)]), (40, [(2, -1)])])]), [], 400)
def yD4 : List YD := yD_4 :: yD3
theorem yk_4 : ychk yKD (yct yCT0 yD3) xMT xFT yEX xm8 yD_4.2.1 yD_4.2.2.1 400 = true := by decide +kernel
-- IceBoats$Row.isMissing
def yD_5 : YD := (13, ([(1, 3, 0)], [(0, 1)], true, [(some (.inr (1, [])), [(-1, [(1, -1)])]), (some (.inr (0, [])), [(0, [(1, 1)])])]), [], 400)
def yD5 : List YD := yD_5 :: yD4
theorem yk_5 : ychk yKD (yct yCT0 yD4) xMT xFT yEX xm13 yD_5.2.1 yD_5.2.2.1 400 = true := by decide +kernel
-- IceBoats$Row.holds
def yD_6 : YD := (14, ([(1, 3, 0), (0, -2147483648, 2147483647), (0, -2147483648, 2147483647)], [(0, 1)], true, [(some (.inr (1, [])), [(0, [(1, -1), (2, -1), (3, 1)]), (0, [(1, 1)]), (0, [(2, -1), (3, 1)]), (0, [(2, 1)]), (0, [(3, 1)]), (40, [(1, -1)]), (40, [(2, -1)])]), (some (.inr (0, [])), [(-1, [(1, 1), (2, 1), (3, -1)]), (0, [(1, 1)]), (0, [(2, -1), (3, 1)]), (0, [(2, 1)]), (0, [(3, 1)]), (40, [(2, -1)])]), (some (.inr (0, [])), [(-1, [(2, 1), (3, -1)]), (0, [(1, 1)]), (0, [(2, 1)])]), (some (.inr (0, [])), [(-1, [(2, -1)]), (0, [(1, 1)])]), (some (.inr (0, [])), [(-1, [(1, -1)])])]), [], 400)
def yD6 : List YD := yD_6 :: yD5
theorem yk_6 : ychk yKD (yct yCT0 yD5) xMT xFT yEX xm14 yD_6.2.1 yD_6.2.2.1 400 = true := by decide +kernel
-- IceBoats.tellAsked
def yD_7 : YD := (15, ([(1, 0, 0), (0, -2147483648, 2147483647)], [], false, [(some (.inr (1, [])), [])]), [], 400)
def yD7 : List YD := yD_7 :: yD6
theorem yk_7 : ychk yKD (yct yCT0 yD6) xMT xFT yEX xm15 yD_7.2.1 yD_7.2.2.1 400 = true := by decide +kernel
-- IceBoats.lay
def yD_8 : YD := (12, ([(1, 0, 0), (0, -2147483648, 2147483647), (0, -2147483648, 2147483647), (0, -2147483648, 2147483647)], [], false, [(some (.inr (-1, [])), [(-1, [(1, -1)])]), (some (.inr (-1, [])), [(-6, [(1, 1)])]), (some (.inr (-3, [])), [(-1, [(2, -1)]), (0, [(1, 1)]), (5, [(1, -1)])]), (some (.inr (-3, [])), [(0, [(1, 1)]), (0, [(2, 1)]), (5, [(1, -1)])]), (some (.inr (1, [])), [(0, [(1, 1)]), (0, [(2, 1)]), (5, [(1, -1)]), (39, [(2, -1)])]), (some (.inr (-3, [])), [(0, [(1, 1)]), (5, [(1, -1)])])]), [], 400)
def yD8 : List YD := yD_8 :: yD7
theorem yk_8 : ychk yKD (yct yCT0 yD7) xMT xFT yEX xm12 yD_8.2.1 yD_8.2.2.1 400 = true := by decide +kernel
-- IceBoats.tear
def yD_9 : YD := (16, ([(1, 0, 0), (0, -2147483648, 2147483647)], [], false, [(some (.inr (-1, [])), [(-1, [(1, -1)])]), (some (.inr (-1, [])), [(-6, [(1, 1)])]), (some (.inr (1, [])), [(0, [(1, 1)]), (5, [(1, -1)])]), (some (.inr (-3, [])), [(0, [(1, 1)]), (5, [(1, -1)])])]), [], 400)
def yD9 : List YD := yD_9 :: yD8
theorem yk_9 : ychk yKD (yct yCT0 yD8) xMT xFT yEX xm16 yD_9.2.1 yD_9.2.2.1 400 = true := by decide +kernel
-- IceBoats.copy
def yD_10 : YD := (17, ([(1, 0, 0), (0, -2147483648, 2147483647), (0, -2147483648, 2147483647), (0, -2147483648, 2147483647), (0, -2147483648, 2147483647), (0, -2147483648, 2147483647)], [], false, [(some (.inr (-1, [])), [(-1, [(1, -1)]), (-1, [(3, -1)])]), (some (.inr (-1, [])), [(-6, [(3, 1)]), (-1, [(1, -1)])]), (some (.inr (-1, [])), [(-1, [(1, -1)]), (0, [(3, 1)]), (5, [(3, -1)])]), (some (.inr (-1, [])), [(-6, [(1, 1)]), (-1, [(3, -1)])]), (some (.inr (-1, [])), [(-6, [(1, 1)]), (-6, [(3, 1)])]), (some (.inr (-1, [])), [(-6, [(1, 1)]), (0, [(3, 1)]), (5, [(3, -1)])]), (some (.inr (-1, [])), [(-1, [(3, -1)]), (0, [(1, 1)]), (5, [(1, -1)])]), (some (.inr (-1, [])), [(-6, [(3, 1)]), (0, [(1, 1)]), (5, [(1, -1)])]), (some (.inr (-3, [])), [(-1, [(5, -1)]), (0, [(1, 1)]), (0, [(3, 1)]), (5, [(1, -1)]), (5, [(3, -1)])]), (some (.inr (-3, [])), [(-1, [(2, -1)]), (0, [(1, 1)]), (0, [(3, 1)]), (0, [(5, 1)]), (5, [(1, -1)]), (5, [(3, -1)])]), (some (.inr (-3, [])), [(-1, [(5, 1)]), (0, [(1, 1)]), (0, [(2, 1)]), (0, [(3, 1)]), (5, [(1, -1)]), (5, [(3, -1)])]), (some (.inr (-3, [])), [(0, [(1, 1)]), (0, [(2, 1)]), (0, [(3, 1)]), (0, [(5, 1)]), (5, [(1, -1)]), (5, [(3, -1)]), (40, [(5, -1)])]), (some (.inr (-3, [])), [(-1, [(4, -1)]), (0, [(1, 1)]), (0, [(2, 1)]), (0, [(3, 1)]), (0, [(5, 1)]), (5, [(1, -1)]), (5, [(3, -1)]), (40, [(2, -1)]), (40, [(5, -1)])]), (some (.inr (-3, [])), [(-1, [(5, 1)]), (0, [(1, 1)]), (0, [(2, 1)]), (0, [(3, 1)]), (0, [(4, 1)]), (5, [(1, -1)]), (5, [(3, -1)]), (40, [(2, -1)]), (40, [(5, -1)])]), (some (.inr (-3, [])), [(0, [(1, 1)]), (0, [(2, 1)]), (0, [(3, 1)]), (0, [(4, 1)]), (0, [(5, 1)]), (5, [(1, -1)]), (5, [(3, -1)]), (40, [(2, -1)]), (40, [(5, -1)])]), (some (.inr (1, [])), [(0, [(1, 1)]), (0, [(2, 1)]), (0, [(3, 1)]), (0, [(4, 1)]), (0, [(5, 1)]), (5, [(1, -1)]), (5, [(3, -1)]), (40, [(2, -1)]), (40, [(4, -1)]), (40, [(5, -1)])]), (some (.inr (-3, [])), [(0, [(1, 1)]), (0, [(3, 1)]), (0, [(5, 1)]), (5, [(1, -1)]), (5, [(3, -1)])])]), [], 400)
def yD10 : List YD := yD_10 :: yD9
theorem yk_10 : ychk yKD (yct yCT0 yD9) xMT xFT yEX xm17 yD_10.2.1 yD_10.2.2.1 400 = true := by decide +kernel
-- IceBoats.mean
def yD_11 : YD := (18, ([(1, 0, 0), (0, -2147483648, 2147483647)], [], false, [(some (.inr (-3, [])), []), (some (.inr (-1, [])), []), (some (.inr (1, [])), [])]), [(43, [(0, 1, (1, 0, 0)), (1, 1, (0, 0, 5)), (2, 1, (1, 3, 0)), (3, 1, (2, 0, 0)), (5, 1, (0, 0, 40))], [(2, 1, (0, 1, 40))], [], (81, [(4, -2)]))], 400)
def yD11 : List YD := yD_11 :: yD10
theorem yk_11 : ychk yKD (yct yCT0 yD10) xMT xFT yEX xm18 yD_11.2.1 yD_11.2.2.1 400 = true := by decide +kernel
-- IceBoats.textAt
def yD_12 : YD := (20, ([(1, 0, 0), (0, -2147483648, 2147483647)], [], true, [(some (.inl (1, 3, 0)), [(0, [(1, 1)]), (3, [(1, -1)])]), (some (.inl (3, 0, 0)), [(-4, [(1, 1)])]), (some (.inl (3, 0, 0)), [(-1, [(1, -1)])])]), [], 400)
def yD12 : List YD := yD_12 :: yD11
theorem yk_12 : ychk yKD (yct yCT0 yD11) xMT xFT yEX xm20 yD_12.2.1 yD_12.2.2.1 400 = true := by decide +kernel
-- IceBoats$Row.beAnew
def yD_13 : YD := (11, ([(1, 3, 0), (0, 0, 40), (0, 1, 36)], [], false, [(none, [])]), [(7, [(0, 1, (1, 3, 0)), (1, 1, (0, 0, 40)), (2, 1, (0, 1, 36)), (3, 1, (0, 0, 40))], [(0, 1, (0, 0, 40))], [], (81, [(3, -2)]))], 400)
def yD13 : List YD := yD_13 :: yD12
theorem yk_13 : ychk yKD (yct yCT0 yD12) xMT xFT yEX xm11 yD_13.2.1 yD_13.2.2.1 400 = true := by decide +kernel
-- IceBoats.text
def yD_14 : YD := (19, ([(1, 0, 0), (0, -2147483648, 2147483647), (0, -2147483648, 2147483647)], [], false, [(some (.inr (-1, [])), [(-1, [(1, -1)])]), (some (.inr (-1, [])), [(-4, [(1, 1)])]), (some (.inr (-1, [])), [(-41, [(2, 1)]), (0, [(1, 1)]), (3, [(1, -1)])]), (some (.inr (-3, [])), [(-1, [(2, -1)]), (0, [(1, 1)]), (3, [(1, -1)])]), (some (.inr (0, [(2, 1)])), [(0, [(1, 1)]), (0, [(2, 1)]), (3, [(1, -1)]), (40, [(2, -1)])])]), [], 400)
def yD14 : List YD := yD_14 :: yD13
theorem yk_14 : ychk yKD (yct yCT0 yD13) xMT xFT yEX xm19 yD_14.2.1 yD_14.2.2.1 400 = true := by decide +kernel
-- IceBoats.put
def yD_15 : YD := (21, ([(1, 0, 0), (0, -2147483648, 2147483647), (0, -2147483648, 2147483647), (0, -2147483648, 2147483647)], [], false, [(some (.inr (-1, [])), [(-1, [(1, -1)])]), (some (.inr (-1, [])), [(-4, [(1, 1)])]), (some (.inr (-3, [])), [(-1, [(2, -1)]), (0, [(1, 1)]), (3, [(1, -1)])]), (some (.inr (-3, [])), [(0, [(1, 1)]), (0, [(2, 1)]), (3, [(1, -1)])]), (some (.inl (0, -2147483648, 2147483647)), [(0, [(1, 1)]), (0, [(2, 1)]), (3, [(1, -1)]), (39, [(2, -1)])]), (some (.inr (-3, [])), [(0, [(1, 1)]), (3, [(1, -1)])])]), [], 400)
def yD15 : List YD := yD_15 :: yD14
theorem yk_15 : ychk yKD (yct yCT0 yD14) xMT xFT yEX xm21 yD_15.2.1 yD_15.2.2.1 400 = true := by decide +kernel
-- IceBoats.isCell
def yD_16 : YD := (23, ([(0, -2147483648, 2147483647)], [], true, [(some (.inr (1, [])), [(0, [(0, 1)]), (63, [(0, -1)])]), (some (.inr (0, [])), [(-64, [(0, 1)])]), (some (.inr (0, [])), [(-1, [(0, -1)])])]), [], 400)
def yD16 : List YD := yD_16 :: yD15
theorem yk_16 : ychk yKD (yct yCT0 yD15) xMT xFT yEX xm23 yD_16.2.1 yD_16.2.2.1 400 = true := by decide +kernel
-- IceBoats.boatLiesIn
def yD_17 : YD := (24, ([(1, 0, 0), (0, -2147483648, 2147483647)], [], true, [(some (.inr (0, [])), []), (some (.inr (1, [])), [])]), [(2, [(0, 1, (1, 0, 0)), (1, 1, (0, -2147483648, 2147483647)), (2, 1, (0, 0, 6))], [], [], (13, [(2, -2)]))], 400)
def yD17 : List YD := yD_17 :: yD16
theorem yk_17 : ychk yKD (yct yCT0 yD16) xMT xFT yEX xm24 yD_17.2.1 yD_17.2.2.1 400 = true := by decide +kernel
-- IceBoats.hasBit
def yD_18 : YD := (26, ([(2, 0, 0), (0, -2147483648, 2147483647)], [], true, [(some (.inr (1, [])), []), (some (.inr (0, [])), [])]), [], 400)
def yD18 : List YD := yD_18 :: yD17
theorem yk_18 : ychk yKD (yct yCT0 yD17) xMT xFT yEX xm26 yD_18.2.1 yD_18.2.2.1 400 = true := by decide +kernel
-- IceBoats$Sea.isRock
def yD_19 : YD := (25, ([(1, 5, 0), (0, -2147483648, 2147483647)], [], true, [(some (.inr (0, [])), []), (some (.inr (1, [])), [])]), [], 400)
def yD19 : List YD := yD_19 :: yD18
theorem yk_19 : ychk yKD (yct yCT0 yD18) xMT xFT yEX xm25 yD_19.2.1 yD_19.2.2.1 400 = true := by decide +kernel
-- IceBoats$Sea.becomeRock
def yD_20 : YD := (27, ([(1, 5, 0), (0, -2147483648, 2147483647), (0, -2147483648, 2147483647)], [], false, [(none, [(-1, [(2, 1)])]), (none, [(-1, [(2, -1)])]), (none, [(0, [(2, -1)]), (0, [(2, 1)])])]), [], 400)
def yD20 : List YD := yD_20 :: yD19
theorem yk_20 : ychk yKD (yct yCT0 yD19) xMT xFT yEX xm27 yD_20.2.1 yD_20.2.2.1 400 = true := by decide +kernel
-- IceBoats.rock
def yD_21 : YD := (22, ([(1, 0, 0), (0, -2147483648, 2147483647), (0, -2147483648, 2147483647)], [], false, [(some (.inr (-1, [])), [(-1, [(1, -1)])]), (some (.inr (-1, [])), [(-64, [(1, 1)])]), (some (.inr (-4, [])), [(-1, [(1, 1)]), (-1, [(2, 1)]), (63, [(1, -1)])]), (some (.inr (1, [])), [(-1, [(1, 1)]), (-1, [(2, 1)]), (63, [(1, -1)])]), (some (.inr (0, [])), [(-1, [(1, 1)]), (-1, [(2, 1)]), (63, [(1, -1)])]), (some (.inr (-4, [])), [(-1, [(2, 1)]), (0, [(1, 1)]), (62, [(1, -1)])]), (some (.inr (1, [])), [(-1, [(2, 1)]), (0, [(1, 1)]), (62, [(1, -1)])]), (some (.inr (0, [])), [(-1, [(2, 1)]), (0, [(1, 1)]), (62, [(1, -1)])]), (some (.inr (-4, [])), [(-1, [(2, 1)]), (0, [(1, 1)]), (63, [(1, -1)])]), (some (.inr (-4, [])), [(-1, [(1, 1)]), (-1, [(2, -1)]), (63, [(1, -1)])]), (some (.inr (1, [])), [(-1, [(1, 1)]), (-1, [(2, -1)]), (63, [(1, -1)])]), (some (.inr (0, [])), [(-1, [(1, 1)]), (-1, [(2, -1)]), (63, [(1, -1)])]), (some (.inr (-4, [])), [(-1, [(2, -1)]), (0, [(1, 1)]), (62, [(1, -1)])]), (some (.inr (1, [])), [(-1, [(2, -1)]), (0, [(1, 1)]), (62, [(1, -1)])]), (some (.inr (0, [])), [(-1, [(2, -1)]), (0, [(1, 1)]), (62, [(1, -1)])]), (some (.inr (-4, [])), [(-1, [(2, -1)]), (0, [(1, 1)]), (63, [(1, -1)])]), (some (.inr (1, [])), [(0, [(1, 1)]), (0, [(2, -1)]), (0, [(2, 1)]), (63, [(1, -1)])]), (some (.inr (0, [])), [(0, [(1, 1)]), (0, [(2, -1)]), (0, [(2, 1)]), (63, [(1, -1)])])]), [], 400)
def yD21 : List YD := yD_21 :: yD20
theorem yk_21 : ychk yKD (yct yCT0 yD20) xMT xFT yEX xm22 yD_21.2.1 yD_21.2.2.1 400 = true := by decide +kernel
-- IceBoats.isWay
def yD_22 : YD := (29, ([(0, -2147483648, 2147483647)], [], true, [(some (.inr (1, [])), [(0, [(0, 1)]), (4, [(0, -1)])]), (some (.inr (0, [])), [(-5, [(0, 1)])]), (some (.inr (0, [])), [(-1, [(0, -1)])])]), [], 400)
def yD22 : List YD := yD_22 :: yD21
theorem yk_22 : ychk yKD (yct yCT0 yD21) xMT xFT yEX xm29 yD_22.2.1 yD_22.2.2.1 400 = true := by decide +kernel
-- IceBoats.isIce
def yD_23 : YD := (30, ([(0, -2147483648, 2147483647)], [], true, [(some (.inr (1, [])), [(0, [(0, 1)]), (9, [(0, -1)])]), (some (.inr (0, [])), [(-10, [(0, 1)])]), (some (.inr (0, [])), [(-1, [(0, -1)])])]), [], 400)
def yD23 : List YD := yD_23 :: yD22
theorem yk_23 : ychk yKD (yct yCT0 yD22) xMT xFT yEX xm30 yD_23.2.1 yD_23.2.2.1 400 = true := by decide +kernel
-- IceBoats$Sea.becomeWarm
def yD_24 : YD := (31, ([(1, 5, 0), (0, 0, 63), (0, 1, 4)], [], false, [(none, [])]), [], 400)
def yD24 : List YD := yD_24 :: yD23
theorem yk_24 : ychk yKD (yct yCT0 yD23) xMT xFT yEX xm31 yD_24.2.1 yD_24.2.2.1 400 = true := by decide +kernel
-- IceBoats.cell
def yD_25 : YD := (28, ([(1, 0, 0), (0, -2147483648, 2147483647), (0, -2147483648, 2147483647), (0, -2147483648, 2147483647), (0, -2147483648, 2147483647)], [], false, [(some (.inr (-1, [])), [(-1, [(1, -1)])]), (some (.inr (-1, [])), [(-64, [(1, 1)])]), (some (.inr (-1, [])), [(-1, [(2, -1)]), (0, [(1, 1)]), (63, [(1, -1)])]), (some (.inr (-1, [])), [(-5, [(2, 1)]), (0, [(1, 1)]), (63, [(1, -1)])]), (some (.inr (-1, [])), [(-1, [(3, 1)]), (-1, [(4, -1)]), (0, [(1, 1)]), (0, [(2, 1)]), (4, [(2, -1)]), (4, [(3, -1)]), (63, [(1, -1)])]), (some (.inr (-1, [])), [(-10, [(4, 1)]), (-1, [(3, 1)]), (0, [(1, 1)]), (0, [(2, 1)]), (4, [(2, -1)]), (4, [(3, -1)]), (63, [(1, -1)])]), (some (.inr (1, [])), [(-1, [(3, 1)]), (0, [(1, 1)]), (0, [(2, 1)]), (0, [(4, 1)]), (4, [(2, -1)]), (4, [(3, -1)]), (9, [(4, -1)]), (63, [(1, -1)])]), (some (.inr (-1, [])), [(-5, [(3, 1)]), (0, [(1, 1)]), (0, [(2, 1)]), (4, [(2, -1)]), (63, [(1, -1)])]), (some (.inr (-1, [])), [(0, [(1, 1)]), (0, [(2, 1)]), (0, [(3, -1)]), (4, [(2, -1)]), (63, [(1, -1)])])]), [], 400)
def yD25 : List YD := yD_25 :: yD24
theorem yk_25 : ychk yKD (yct yCT0 yD24) xMT xFT yEX xm28 yD_25.2.1 yD_25.2.2.1 400 = true := by decide +kernel
-- IceBoats$Sea.tellOf
def yD_26 : YD := (33, ([(1, 5, 0), (0, 0, 63), (0, 0, 4)], [], true, [(some (.inl (0, -2147483648, 2147483647)), [(-4, [(2, 1)])]), (some (.inl (0, -2147483648, 2147483647)), [(-3, [(2, 1)]), (3, [(2, -1)])]), (some (.inl (0, 1, 4)), [(-2, [(2, 1)]), (2, [(2, -1)])]), (some (.inl (0, 0, 4)), [(-1, [(2, 1)]), (1, [(2, -1)])]), (some (.inr (1, [])), [(0, [(2, -1)])]), (some (.inr (0, [])), [(0, [(2, -1)])])]), [], 400)
def yD26 : List YD := yD_26 :: yD25
theorem yk_26 : ychk yKD (yct yCT0 yD25) xMT xFT yEX xm33 yD_26.2.1 yD_26.2.2.1 400 = true := by decide +kernel
-- IceBoats.sea
def yD_27 : YD := (32, ([(1, 0, 0), (0, -2147483648, 2147483647), (0, -2147483648, 2147483647)], [], false, [(some (.inr (-1, [])), [(-1, [(1, -1)])]), (some (.inr (-1, [])), [(-64, [(1, 1)])]), (some (.inr (-1, [])), [(-5, [(2, 1)]), (0, [(1, 1)]), (63, [(1, -1)])]), (some (.inr (1, [])), [(0, [(1, 1)]), (0, [(2, -1)]), (0, [(2, 1)]), (63, [(1, -1)])]), (some (.inr (1, [])), [(-1, [(2, 1)]), (0, [(1, 1)]), (1, [(2, -1)]), (63, [(1, -1)])]), (some (.inr (1, [])), [(-2, [(2, 1)]), (0, [(1, 1)]), (2, [(2, -1)]), (63, [(1, -1)])]), (some (.inr (1, [])), [(-3, [(2, 1)]), (0, [(1, 1)]), (3, [(2, -1)]), (63, [(1, -1)])]), (some (.inr (1, [])), [(-4, [(2, 1)]), (0, [(1, 1)]), (4, [(2, -1)]), (63, [(1, -1)])]), (some (.inr (-1, [])), [(-1, [(2, -1)]), (0, [(1, 1)]), (63, [(1, -1)])])]), [], 400)
def yD27 : List YD := yD_27 :: yD26
theorem yk_27 : ychk yKD (yct yCT0 yD26) xMT xFT yEX xm32 yD_27.2.1 yD_27.2.2.1 400 = true := by decide +kernel
-- IceBoats.chart
def yD_28 : YD := (34, ([(1, 0, 0), (0, -2147483648, 2147483647), (0, -2147483648, 2147483647)], [], false, [(some (.inr (-1, [])), [(-1, [(1, -1)])]), (some (.inr (-1, [])), [(-64, [(1, 1)])]), (some (.inr (-1, [])), [(-1, [(2, -1)]), (0, [(1, 1)]), (8, [(2, 1)]), (63, [(1, -1)])]), (some (.inr (-1, [])), [(-10, [(2, 1)]), (0, [(1, 1)]), (63, [(1, -1)])]), (some (.inr (1, [])), [(0, [(1, 1)]), (0, [(2, 1)]), (9, [(2, -1)]), (63, [(1, -1)])]), (some (.inr (-1, [])), [(-10, [(2, -1)]), (0, [(1, 1)]), (63, [(1, -1)])]), (some (.inr (1, [])), [(-9, [(2, -1)]), (0, [(1, 1)]), (9, [(2, 1)]), (63, [(1, -1)])])]), [], 400)
def yD28 : List YD := yD_28 :: yD27
theorem yk_28 : ychk yKD (yct yCT0 yD27) xMT xFT yEX xm34 yD_28.2.1 yD_28.2.2.1 400 = true := by decide +kernel
-- IceBoats.hole
def yD_29 : YD := (35, ([(1, 0, 0), (0, -2147483648, 2147483647)], [], false, [(some (.inr (-1, [])), [(-1, [(1, -1)])]), (some (.inr (-1, [])), [(-64, [(1, 1)])]), (some (.inr (-4, [])), [(0, [(1, 1)]), (63, [(1, -1)])]), (some (.inl (0, 0, 63)), [(0, [(1, 1)]), (63, [(1, -1)])])]), [], 400)
def yD29 : List YD := yD_29 :: yD28
theorem yk_29 : ychk yKD (yct yCT0 yD28) xMT xFT yEX xm35 yD_29.2.1 yD_29.2.2.1 400 = true := by decide +kernel
-- IceBoats.seed
def yD_30 : YD := (36, ([(1, 0, 0), (0, -2147483648, 2147483647)], [], false, [(some (.inr (1, [])), [])]), [], 400)
def yD30 : List YD := yD_30 :: yD29
theorem yk_30 : ychk yKD (yct yCT0 yD29) xMT xFT yEX xm36 yD_30.2.1 yD_30.2.2.1 400 = true := by decide +kernel
-- IceBoats.isBoat
def yD_31 : YD := (39, ([(0, -2147483648, 2147483647)], [], true, [(some (.inr (1, [])), [(0, [(0, 1)]), (5, [(0, -1)])]), (some (.inr (0, [])), [(-6, [(0, 1)])]), (some (.inr (0, [])), [(-1, [(0, -1)])])]), [], 400)
def yD31 : List YD := yD_31 :: yD30
theorem yk_31 : ychk yKD (yct yCT0 yD30) xMT xFT yEX xm39 yD_31.2.1 yD_31.2.2.1 400 = true := by decide +kernel
-- IceBoats.boatAt
def yD_32 : YD := (38, ([(1, 0, 0), (0, -2147483648, 2147483647)], [], true, [(some (.inl (3, 0, 0)), [(-1, [(1, -1)])]), (some (.inl (3, 0, 0)), [(-6, [(1, 1)])]), (some (.inl (1, 14, 0)), [(0, [(1, 1)]), (5, [(1, -1)])])]), [], 400)
def yD32 : List YD := yD_32 :: yD31
theorem yk_32 : ychk yKD (yct yCT0 yD31) xMT xFT yEX xm38 yD_32.2.1 yD_32.2.2.1 400 = true := by decide +kernel
-- IceBoats$Boat.letDown
def yD_33 : YD := (40, ([(1, 14, 0), (0, 0, 3), (0, 0, 63), (0, 0, 1000), (0, 0, 999)], [], false, [(none, [])]), [], 400)
def yD33 : List YD := yD_33 :: yD32
theorem yk_33 : ychk yKD (yct yCT0 yD32) xMT xFT yEX xm40 yD_33.2.1 yD_33.2.2.1 400 = true := by decide +kernel
-- IceBoats.boat
def yD_34 : YD := (37, ([(1, 0, 0), (0, -2147483648, 2147483647), (0, -2147483648, 2147483647), (0, -2147483648, 2147483647), (0, -2147483648, 2147483647)], [], false, [(some (.inr (-1, [])), [(-1, [(3, -1)]), (0, [(1, 1)]), (0, [(2, 1)]), (3, [(2, -1)]), (5, [(1, -1)])]), (some (.inr (-1, [])), [(-64, [(3, 1)]), (0, [(1, 1)]), (0, [(2, 1)]), (3, [(2, -1)]), (5, [(1, -1)])]), (some (.inr (-1, [])), [(-1001, [(4, 1)]), (0, [(1, 1)]), (0, [(2, 1)]), (0, [(3, 1)]), (3, [(2, -1)]), (5, [(1, -1)]), (63, [(3, -1)])]), (some (.inr (-4, [])), [(0, [(1, 1)]), (0, [(2, 1)]), (0, [(3, 1)]), (0, [(4, 1)]), (3, [(2, -1)]), (5, [(1, -1)]), (63, [(3, -1)]), (1000, [(4, -1)])]), (some (.inr (1, [])), [(0, [(1, 1)]), (0, [(2, 1)]), (0, [(3, 1)]), (0, [(4, 1)]), (3, [(2, -1)]), (5, [(1, -1)]), (63, [(3, -1)]), (1000, [(4, -1)])]), (some (.inr (-1, [])), [(-1, [(4, -1)]), (0, [(1, 1)]), (0, [(2, 1)]), (0, [(3, 1)]), (3, [(2, -1)]), (5, [(1, -1)]), (63, [(3, -1)])]), (some (.inr (-1, [])), [(-4, [(2, 1)]), (0, [(1, 1)]), (5, [(1, -1)])]), (some (.inr (-1, [])), [(-1, [(2, -1)]), (0, [(1, 1)]), (5, [(1, -1)])]), (some (.inr (-1, [])), [(-6, [(1, 1)])]), (some (.inr (-1, [])), [(-1, [(1, -1)])])]), [], 400)
def yD34 : List YD := yD_34 :: yD33
theorem yk_34 : ychk yKD (yct yCT0 yD33) xMT xFT yEX xm37 yD_34.2.1 yD_34.2.2.1 400 = true := by decide +kernel
-- IceBoats.looksHeldBy
def yD_35 : YD := (44, ([(1, 0, 0), (0, -2147483648, 2147483647)], [], true, [(some (.inl (0, -2147483648, 2147483647)), [])]), [(4, [(0, 1, (1, 0, 0)), (1, 1, (0, -2147483648, 2147483647)), (2, 1, (0, -2147483648, 2147483647)), (3, 1, (0, 0, 40))], [], [], (81, [(3, -2)]))], 400)
def yD35 : List YD := yD_35 :: yD34
theorem yk_35 : ychk yKD (yct yCT0 yD34) xMT xFT yEX xm44 yD_35.2.1 yD_35.2.2.1 400 = true := by decide +kernel
-- java/lang/Long.bitCount
def yD_36 : YD := (43, ([(2, 0, 0)], [], true, [(some (.inl (0, -2147483648, 2147483647)), [])]), [], 400)
def yD36 : List YD := yD_36 :: yD35
theorem yk_36 : ychk yKD (yct yCT0 yD35) xMT xFT yEX xm43 yD_36.2.1 yD_36.2.2.1 400 = true := by decide +kernel
-- IceBoats.tellOfBoat
def yD_37 : YD := (42, ([(1, 0, 0), (0, -2147483648, 2147483647), (1, 14, 0), (0, -2147483648, 2147483647)], [(2, 6), (2, 3), (2, 2), (2, 1)], true, [(some (.inr (0, [(4, 1)])), [(-5, [(3, 1)])]), (some (.inr (0, [(4, 1)])), [(-1, [(3, -1)])]), (some (.inl (0, -2147483648, 2147483647)), [(-4, [(3, 1)]), (4, [(3, -1)])]), (some (.inl (0, -2147483648, 2147483647)), [(-3, [(3, 1)]), (3, [(3, -1)])]), (some (.inr (0, [(5, 1)])), [(-2, [(3, 1)]), (2, [(3, -1)])]), (some (.inr (0, [(6, 1)])), [(-1, [(3, 1)]), (1, [(3, -1)])]), (some (.inr (0, [(7, 1)])), [(0, [(3, -1)]), (0, [(3, 1)])])]), [], 400)
def yD37 : List YD := yD_37 :: yD36
theorem yk_37 : ychk yKD (yct yCT0 yD36) xMT xFT yEX xm42 yD_37.2.1 yD_37.2.2.1 400 = true := by decide +kernel
-- IceBoats.told
def yD_38 : YD := (41, ([(1, 0, 0), (0, -2147483648, 2147483647), (0, -2147483648, 2147483647)], [], false, [(some (.inr (-1, [])), [(-6, [(2, 1)]), (0, [(1, 1)]), (5, [(1, -1)])]), (some (.inr (1, [])), [(0, [(1, 1)]), (0, [(2, -1)]), (0, [(2, 1)]), (5, [(1, -1)])]), (some (.inr (1, [])), [(-1, [(2, 1)]), (0, [(1, 1)]), (1, [(2, -1)]), (5, [(1, -1)])]), (some (.inr (1, [])), [(-2, [(2, 1)]), (0, [(1, 1)]), (2, [(2, -1)]), (5, [(1, -1)])]), (some (.inr (1, [])), [(-3, [(2, 1)]), (0, [(1, 1)]), (3, [(2, -1)]), (5, [(1, -1)])]), (some (.inr (1, [])), [(-4, [(2, 1)]), (0, [(1, 1)]), (4, [(2, -1)]), (5, [(1, -1)])]), (some (.inr (1, [])), [(-5, [(2, 1)]), (0, [(1, 1)]), (5, [(1, -1)]), (5, [(2, -1)])]), (some (.inr (-1, [])), [(-1, [(2, -1)]), (0, [(1, 1)]), (5, [(1, -1)])]), (some (.inr (-1, [])), [(-6, [(1, 1)])]), (some (.inr (-1, [])), [(-1, [(1, -1)])])]), [], 400)
def yD38 : List YD := yD_38 :: yD37
theorem yk_38 : ychk yKD (yct yCT0 yD37) xMT xFT yEX xm41 yD_38.2.1 yD_38.2.2.1 400 = true := by decide +kernel
-- IceBoats.looksOnlyHeldBy
def yD_39 : YD := (46, ([(1, 0, 0), (0, -2147483648, 2147483647)], [], true, [(some (.inl (0, -2147483648, 2147483647)), [])]), [(4, [(0, 1, (1, 0, 0)), (1, 1, (0, -2147483648, 2147483647)), (2, 1, (0, -2147483648, 2147483647)), (3, 1, (0, 0, 40))], [], [], (81, [(3, -2)]))], 400)
def yD39 : List YD := yD_39 :: yD38
theorem yk_39 : ychk yKD (yct yCT0 yD38) xMT xFT yEX xm46 yD_39.2.1 yD_39.2.2.1 400 = true := by decide +kernel
-- IceBoats.mark
def yD_40 : YD := (45, ([(1, 0, 0), (0, -2147483648, 2147483647), (0, -2147483648, 2147483647)], [], false, [(some (.inr (-1, [])), [(-7, [(2, 1)]), (0, [(1, 1)]), (5, [(1, -1)])]), (some (.inr (-3, [])), [(-1, [(2, 1)]), (0, [(1, 1)]), (3, [(2, -1)]), (5, [(1, -1)])]), (some (.inr (-3, [])), [(-1, [(2, 1)]), (0, [(1, 1)]), (5, [(1, -1)]), (5, [(2, -1)])]), (some (.inl (0, -2147483648, 2147483647)), [(-4, [(2, 1)]), (0, [(1, 1)]), (4, [(2, -1)]), (5, [(1, -1)])]), (some (.inl (0, -2147483648, 2147483647)), [(-3, [(2, 1)]), (0, [(1, 1)]), (3, [(2, -1)]), (5, [(1, -1)])]), (some (.inl (0, -2147483648, 2147483647)), [(-2, [(2, 1)]), (0, [(1, 1)]), (2, [(2, -1)]), (5, [(1, -1)])]), (some (.inl (0, -2147483648, 2147483647)), [(-1, [(2, 1)]), (0, [(1, 1)]), (1, [(2, -1)]), (5, [(1, -1)])]), (some (.inr (-3, [])), [(-1, [(2, 1)]), (0, [(1, 1)]), (5, [(1, -1)]), (6, [(2, -1)])]), (some (.inl (0, -2147483648, 2147483647)), [(-6, [(2, 1)]), (0, [(1, 1)]), (5, [(1, -1)]), (6, [(2, -1)])]), (some (.inl (0, -2147483648, 2147483647)), [(-5, [(2, 1)]), (0, [(1, 1)]), (5, [(1, -1)]), (5, [(2, -1)])]), (some (.inr (-1, [])), [(0, [(1, 1)]), (0, [(2, -1)]), (5, [(1, -1)])]), (some (.inr (-1, [])), [(-6, [(1, 1)])]), (some (.inr (-1, [])), [(-1, [(1, -1)])])]), [], 400)
def yD40 : List YD := yD_40 :: yD39
theorem yk_40 : ychk yKD (yct yCT0 yD39) xMT xFT yEX xm45 yD_40.2.1 yD_40.2.2.1 400 = true := by decide +kernel
-- IceBoats.tellSet
def yD_41 : YD := (48, ([(1, 0, 0), (2, 0, 0)], [], false, [(some (.inl (0, -2147483648, 2147483647)), [])]), [], 400)
def yD41 : List YD := yD_41 :: yD40
theorem yk_41 : ychk yKD (yct yCT0 yD40) xMT xFT yEX xm48 yD_41.2.1 yD_41.2.2.1 400 = true := by decide +kernel
-- IceBoats.could
def yD_42 : YD := (47, ([(1, 0, 0), (0, -2147483648, 2147483647)], [], false, [(some (.inl (0, -2147483648, 2147483647)), [(0, [(1, 1)]), (5, [(1, -1)])]), (some (.inr (-1, [])), [(-6, [(1, 1)])]), (some (.inr (-1, [])), [(-1, [(1, -1)])])]), [], 400)
def yD42 : List YD := yD_42 :: yD41
theorem yk_42 : ychk yKD (yct yCT0 yD41) xMT xFT yEX xm47 yD_42.2.1 yD_42.2.2.1 400 = true := by decide +kernel
-- IceBoats$Boat.isAble
def yD_43 : YD := (50, ([(1, 14, 0)], [(0, 1)], true, [(some (.inr (1, [])), [(3, [(1, -1)])]), (some (.inr (0, [])), [(-4, [(1, 1)])])]), [], 400)
def yD43 : List YD := yD_43 :: yD42
theorem yk_43 : ychk yKD (yct yCT0 yD42) xMT xFT yEX xm50 yD_43.2.1 yD_43.2.2.1 400 = true := by decide +kernel
-- IceBoats.go
def yD_44 : YD := (49, ([(1, 0, 0), (0, -2147483648, 2147483647), (0, -2147483648, 2147483647)], [], false, [(some (.inr (-1, [])), [(-1, [(2, -1)]), (0, [(1, 1)]), (5, [(1, -1)])]), (some (.inr (-1, [])), [(-5, [(2, 1)]), (0, [(1, 1)]), (5, [(1, -1)])]), (some (.inr (-4, [])), [(0, [(1, 1)]), (0, [(2, 1)]), (4, [(2, -1)]), (5, [(1, -1)])]), (some (.inr (1, [])), [(0, [(1, 1)]), (0, [(2, 1)]), (4, [(2, -1)]), (5, [(1, -1)])]), (some (.inr (-1, [])), [(-6, [(1, 1)])]), (some (.inr (-1, [])), [(-1, [(1, -1)])])]), [], 400)
def yD44 : List YD := yD_44 :: yD43
theorem yk_44 : ychk yKD (yct yCT0 yD43) xMT xFT yEX xm49 yD_44.2.1 yD_44.2.2.1 400 = true := by decide +kernel
-- IceBoats$Sea.leadsTo
def yD_45 : YD := (53, ([(1, 5, 0), (0, 0, 63), (0, 0, 0)], [], true, [(some (.inr (0, [(1, 1)])), []), (some (.inl (0, 0, 63)), []), (some (.inr (0, [(1, 1)])), [(-1, [(1, 1)]), (63, [(1, -1)])]), (some (.inr (0, [(1, 1)])), [(0, [(1, 1)]), (7, [(1, -1)])])]), [], 400)
def yD45 : List YD := yD_45 :: yD44
theorem yk_45 : ychk yKD (yct yCT0 yD44) xMT xFT yEX xm53 yD_45.2.1 yD_45.2.2.1 400 = true := by decide +kernel
-- IceBoats.lotCarries
def yD_46 : YD := (54, ([(1, 0, 0)], [], false, [(some (.inr (1, [])), []), (some (.inr (0, [])), [])]), [], 400)
def yD46 : List YD := yD_46 :: yD45
theorem yk_46 : ychk yKD (yct yCT0 yD45) xMT xFT yEX xm54 yD_46.2.1 yD_46.2.2.1 400 = true := by decide +kernel
-- IceBoats$Sea.leadsTo
def yD_47 : YD := (53, ([(1, 5, 0), (0, 0, 0), (0, 0, 4)], [], true, [(some (.inr (0, [])), []), (some (.inl (0, 0, 9)), [])]), [], 400)
def yD47 : List YD := yD_47 :: yD46
theorem yk_47 : ychk yKD (yct yCT0 yD46) xMT xFT yEX xm53 yD_47.2.1 yD_47.2.2.1 400 = true := by decide +kernel
-- IceBoats$Sea.carriedFrom
def yD_48 : YD := (55, ([(1, 5, 0), (0, 0, 0)], [], true, [(some (.inl (0, 0, 9)), []), (some (.inr (0, [])), [])]), [], 400)
def yD48 : List YD := yD_48 :: yD47
theorem yk_48 : ychk yKD (yct yCT0 yD47) xMT xFT yEX xm55 yD_48.2.1 yD_48.2.2.1 400 = true := by decide +kernel
-- IceBoats$Sea.leadsTo
def yD_49 : YD := (53, ([(1, 5, 0), (0, 0, 63), (0, 0, 4)], [], true, [(some (.inr (0, [(1, 1)])), []), (some (.inl (0, 0, 63)), []), (some (.inr (0, [(1, 1)])), [(-1, [(1, 1)]), (63, [(1, -1)])]), (some (.inr (0, [(1, 1)])), [(0, [(1, 1)]), (7, [(1, -1)])])]), [], 400)
def yD49 : List YD := yD_49 :: yD48
theorem yk_49 : ychk yKD (yct yCT0 yD48) xMT xFT yEX xm53 yD_49.2.1 yD_49.2.2.1 400 = true := by decide +kernel
-- IceBoats$Sea.carriedFrom
def yD_50 : YD := (55, ([(1, 5, 0), (0, 0, 63)], [], true, [(some (.inr (0, [(1, 1)])), [(7, [(1, -1)])]), (some (.inr (0, [(1, 1)])), [(-1, [(1, 1)])]), (some (.inl (0, 0, 63)), []), (some (.inr (0, [(1, 1)])), [])]), [], 400)
def yD50 : List YD := yD_50 :: yD49
theorem yk_50 : ychk yKD (yct yCT0 yD49) xMT xFT yEX xm55 yD_50.2.1 yD_50.2.2.1 400 = true := by decide +kernel
-- IceBoats$Sea.couldBehind
def yD_51 : YD := (56, ([(1, 5, 0), (2, 0, 0), (0, 0, 0)], [], true, [(some (.inl (2, 0, 0)), [])]), [(6, [(0, 1, (1, 5, 0)), (1, 1, (2, 0, 0)), (3, 1, (0, 0, 0)), (4, 1, (2, 0, 0)), (6, 1, (0, 0, 64))], [], [], (129, [(4, -2)]))], 400)
def yD51 : List YD := yD_51 :: yD50
theorem yk_51 : ychk yKD (yct yCT0 yD50) xMT xFT yEX xm56 yD_51.2.1 yD_51.2.2.1 400 = true := by decide +kernel
-- IceBoats$Sea.couldBehind
def yD_52 : YD := (56, ([(1, 5, 0), (2, 0, 0), (0, 1, 4)], [], true, [(some (.inl (2, 0, 0)), [])]), [(6, [(0, 1, (1, 5, 0)), (1, 1, (2, 0, 0)), (3, 1, (0, 1, 4)), (4, 1, (2, 0, 0)), (6, 1, (0, 0, 64))], [], [], (129, [(4, -2)]))], 400)
def yD52 : List YD := yD_52 :: yD51
theorem yk_52 : ychk yKD (yct yCT0 yD51) xMT xFT yEX xm56 yD_52.2.1 yD_52.2.2.1 400 = true := by decide +kernel
-- IceBoats.moveBoat
def yD_53 : YD := (52, ([(1, 0, 0), (1, 14, 0)], [], false, [(none, [])]), [], 400)
def yD53 : List YD := yD_53 :: yD52
theorem yk_53 : ychk yKD (yct yCT0 yD52) xMT xFT yEX xm52 yD_53.2.1 yD_53.2.2.1 400 = true := by decide +kernel
-- IceBoats$Word.comesAt
def yD_54 : YD := (58, ([(1, 17, 0), (0, 0, 0), (0, 0, 999)], [], true, [(some (.inr (1, [])), []), (some (.inr (0, [])), [])]), [], 400)
def yD54 : List YD := yD_54 :: yD53
theorem yk_54 : ychk yKD (yct yCT0 yD53) xMT xFT yEX xm58 yD_54.2.1 yD_54.2.2.1 400 = true := by decide +kernel
-- IceBoats.leastCell
def yD_55 : YD := (68, ([(2, 0, 0)], [], true, [(some (.inr (0, [])), []), (some (.inl (0, -2147483648, 2147483647)), [])]), [], 400)
def yD55 : List YD := yD_55 :: yD54
theorem yk_55 : ychk yKD (yct yCT0 yD54) xMT xFT yEX xm68 yD_55.2.1 yD_55.2.2.1 400 = true := by decide +kernel
-- IceBoats.stepsBetween
def yD_56 : YD := (70, ([(0, -2147483648, 2147483647), (0, -2147483648, 2147483647)], [], true, [(some (.inl (0, -2147483648, 2147483647)), [])]), [], 400)
def yD56 : List YD := yD_56 :: yD55
theorem yk_56 : ychk yKD (yct yCT0 yD55) xMT xFT yEX xm70 yD_56.2.1 yD_56.2.2.1 400 = true := by decide +kernel
-- IceBoats$Sea.leadsTo
def yD_57 : YD := (53, ([(1, 5, 0), (0, -2147483648, 2147483647), (0, 1, 1)], [], true, [(some (.inr (0, [(1, 1)])), []), (some (.inl (0, 0, 63)), [])]), [], 400)
def yD57 : List YD := yD_57 :: yD56
theorem yk_57 : ychk yKD (yct yCT0 yD56) xMT xFT yEX xm53 yD_57.2.1 yD_57.2.2.1 400 = true := by decide +kernel
-- IceBoats$Sea.leadsTo
def yD_58 : YD := (53, ([(1, 5, 0), (0, -2147483648, 2147483647), (0, 1, 2)], [], true, [(some (.inr (0, [(1, 1)])), []), (some (.inl (0, 0, 63)), [])]), [], 400)
def yD58 : List YD := yD_58 :: yD57
theorem yk_58 : ychk yKD (yct yCT0 yD57) xMT xFT yEX xm53 yD_58.2.1 yD_58.2.2.1 400 = true := by decide +kernel
-- IceBoats$Sea.leadsTo
def yD_59 : YD := (53, ([(1, 5, 0), (0, -2147483648, 2147483647), (0, 1, 3)], [], true, [(some (.inr (0, [(1, 1)])), []), (some (.inl (0, 0, 63)), [])]), [], 400)
def yD59 : List YD := yD_59 :: yD58
theorem yk_59 : ychk yKD (yct yCT0 yD58) xMT xFT yEX xm53 yD_59.2.1 yD_59.2.2.1 400 = true := by decide +kernel
-- IceBoats$Sea.leadsTo
def yD_60 : YD := (53, ([(1, 5, 0), (0, -2147483648, 2147483647), (0, 1, 4)], [], true, [(some (.inr (0, [(1, 1)])), []), (some (.inl (0, 0, 63)), [])]), [], 400)
def yD60 : List YD := yD_60 :: yD59
theorem yk_60 : ychk yKD (yct yCT0 yD59) xMT xFT yEX xm53 yD_60.2.1 yD_60.2.2.1 400 = true := by decide +kernel
-- IceBoats$Sea.wayNearer
def yD_61 : YD := (69, ([(1, 5, 0), (0, -2147483648, 2147483647), (0, -2147483648, 2147483647)], [], true, [(some (.inl (0, 0, 4)), [])]), [(9, [(0, 1, (1, 5, 0)), (1, 1, (0, -2147483648, 2147483647)), (2, 1, (0, -2147483648, 2147483647)), (3, 1, (0, -2147483648, 2147483647)), (4, 1, (0, 1, 5))], [], [], (11, [(4, -2)]))], 400)
def yD61 : List YD := yD_61 :: yD60
theorem yk_61 : ychk yKD (yct yCT0 yD60) xMT xFT yEX xm69 yD_61.2.1 yD_61.2.2.1 400 = true := by decide +kernel
-- IceBoats.lookAt
def yD_62 : YD := (67, ([(1, 0, 0), (0, -2147483648, 2147483647)], [(0, 11)], true, [(some (.inl (1, 21, 0)), [(-1, [(1, -1), (2, 1)]), (-1, [(2, 1)]), (0, [(1, 1)]), (39, [(1, -1)])]), (some (.inl (3, 0, 0)), [(0, [(1, 1)]), (0, [(1, 1), (2, -1)])]), (some (.inl (3, 0, 0)), [(-1, [(1, -1)])])]), [], 400)
def yD62 : List YD := yD_62 :: yD61
theorem yk_62 : ychk yKD (yct yCT0 yD61) xMT xFT yEX xm67 yD_62.2.1 yD_62.2.2.1 400 = true := by decide +kernel
-- IceBoats.holdLook
def yD_63 : YD := (66, ([(1, 0, 0), (0, -2147483648, 2147483647), (0, -2147483648, 2147483647)], [], false, [(none, [(-1, [(2, -1)])]), (none, [(0, [(2, 1)])]), (none, [(0, [(2, 1)]), (39, [(2, -1)])])]), [], 400)
def yD63 : List YD := yD_63 :: yD62
theorem yk_63 : ychk yKD (yct yCT0 yD62) xMT xFT yEX xm66 yD_63.2.1 yD_63.2.2.1 400 = true := by decide +kernel
-- IceBoats$Wave.beginIn
def yD_64 : YD := (62, ([(1, 11, 0), (0, -2147483648, 2147483647)], [], false, [(none, [])]), [], 400)
def yD64 : List YD := yD_64 :: yD63
theorem yk_64 : ychk yKD (yct yCT0 yD63) xMT xFT yEX xm62 yD_64.2.1 yD_64.2.2.1 400 = true := by decide +kernel
-- IceBoats$Wave.besides
def yD_65 : YD := (64, ([(2, 0, 0)], [], true, [(some (.inl (2, 0, 0)), [])]), [], 400)
def yD65 : List YD := yD_65 :: yD64
theorem yk_65 : ychk yKD (yct yCT0 yD64) xMT xFT yEX xm64 yD_65.2.1 yD_65.2.2.1 400 = true := by decide +kernel
-- IceBoats$Wave.spread
def yD_66 : YD := (63, ([(1, 11, 0), (1, 5, 0)], [], false, [(none, [])]), [], 400)
def yD66 : List YD := yD_66 :: yD65
theorem yk_66 : ychk yKD (yct yCT0 yD65) xMT xFT yEX xm63 yD_66.2.1 yD_66.2.2.1 400 = true := by decide +kernel
-- IceBoats$Sea.cellsAtTime
def yD_67 : YD := (61, ([(1, 5, 0), (2, 0, 0), (0, -2147483648, 2147483647)], [], false, [(some (.inl (2, 0, 0)), [])]), [(15, [(0, 1, (1, 5, 0)), (1, 1, (2, 0, 0)), (3, 1, (0, -2147483648, 2147483647)), (4, 1, (2, 0, 0)), (6, 1, (0, 0, 64))], [], [], (279172874369, [(4, -4294967298)])), (46, [(0, 1, (1, 5, 0)), (1, 1, (2, 0, 0)), (3, 1, (0, -2147483648, 2147483647)), (4, 1, (2, 0, 0)), (6, 1, (0, 0, 63)), (7, 1, (0, 0, 2147483647))], [], [], (279172874367, [(4, -4294967298), (5, -2)]))], 400)
def yD67 : List YD := yD_67 :: yD66
theorem yk_67 : ychk yKD (yct yCT0 yD66) xMT xFT yEX xm61 yD_67.2.1 yD_67.2.2.1 400 = true := by decide +kernel
-- IceBoats$Boat.keepCould
def yD_68 : YD := (65, ([(1, 14, 0), (2, 0, 0)], [], false, [(none, [])]), [], 400)
def yD68 : List YD := yD_68 :: yD67
theorem yk_68 : ychk yKD (yct yCT0 yD67) xMT xFT yEX xm65 yD_68.2.1 yD_68.2.2.1 400 = true := by decide +kernel
-- IceBoats.takeIn
def yD_69 : YD := (60, ([(1, 0, 0), (1, 17, 0), (0, -2147483648, 2147483647), (1, 14, 0)], [], false, [(none, [])]), [], 400)
def yD69 : List YD := yD_69 :: yD68
theorem yk_69 : ychk yKD (yct yCT0 yD68) xMT xFT yEX xm60 yD_69.2.1 yD_69.2.2.1 400 = true := by decide +kernel
-- IceBoats.loseMetWords
def yD_70 : YD := (59, ([(1, 0, 0), (0, 0, 0)], [], false, [(none, [])]), [(2, [(0, 1, (1, 0, 0)), (1, 1, (0, 0, 0)), (2, 1, (0, 0, 40))], [], [], (81, [(2, -2)]))], 400)
def yD70 : List YD := yD_70 :: yD69
theorem yk_70 : ychk yKD (yct yCT0 yD69) xMT xFT yEX xm59 yD_70.2.1 yD_70.2.2.1 400 = true := by decide +kernel
-- IceBoats.hearWhatComes
def yD_71 : YD := (57, ([(1, 0, 0), (0, 0, 0)], [], false, [(some (.inr (0, [])), []), (some (.inr (1, [])), [])]), [(7, [(0, 1, (1, 0, 0)), (1, 1, (0, 0, 0)), (2, 1, (0, -2147483648, 2147483647)), (3, 1, (1, 17, 1)), (4, 1, (0, 0, 40))], [], [], (81, [(4, -2)]))], 400)
def yD71 : List YD := yD_71 :: yD70
theorem yk_71 : ychk yKD (yct yCT0 yD70) xMT xFT yEX xm57 yD_71.2.1 yD_71.2.2.1 400 = true := by decide +kernel
-- IceBoats$Word.comesAt
def yD_72 : YD := (58, ([(1, 17, 0), (0, 0, 1), (0, 0, 999)], [], true, [(some (.inr (1, [])), []), (some (.inr (0, [])), [])]), [], 400)
def yD72 : List YD := yD_72 :: yD71
theorem yk_72 : ychk yKD (yct yCT0 yD71) xMT xFT yEX xm58 yD_72.2.1 yD_72.2.2.1 400 = true := by decide +kernel
-- IceBoats.loseMetWords
def yD_73 : YD := (59, ([(1, 0, 0), (0, 0, 1)], [], false, [(none, [])]), [(2, [(0, 1, (1, 0, 0)), (1, 1, (0, 0, 1)), (2, 1, (0, 0, 40))], [], [], (81, [(2, -2)]))], 400)
def yD73 : List YD := yD_73 :: yD72
theorem yk_73 : ychk yKD (yct yCT0 yD72) xMT xFT yEX xm59 yD_73.2.1 yD_73.2.2.1 400 = true := by decide +kernel
-- IceBoats.hearWhatComes
def yD_74 : YD := (57, ([(1, 0, 0), (0, 0, 1)], [], false, [(some (.inr (0, [])), []), (some (.inr (1, [])), [])]), [(7, [(0, 1, (1, 0, 0)), (1, 1, (0, 0, 1)), (2, 1, (0, -2147483648, 2147483647)), (3, 1, (1, 17, 1)), (4, 1, (0, 0, 40))], [], [], (81, [(4, -2)]))], 400)
def yD74 : List YD := yD_74 :: yD73
theorem yk_74 : ychk yKD (yct yCT0 yD73) xMT xFT yEX xm57 yD_74.2.1 yD_74.2.2.1 400 = true := by decide +kernel
-- IceBoats$Word.comesAt
def yD_75 : YD := (58, ([(1, 17, 0), (0, 0, 2), (0, 0, 999)], [], true, [(some (.inr (1, [])), []), (some (.inr (0, [])), [])]), [], 400)
def yD75 : List YD := yD_75 :: yD74
theorem yk_75 : ychk yKD (yct yCT0 yD74) xMT xFT yEX xm58 yD_75.2.1 yD_75.2.2.1 400 = true := by decide +kernel
-- IceBoats.loseMetWords
def yD_76 : YD := (59, ([(1, 0, 0), (0, 0, 2)], [], false, [(none, [])]), [(2, [(0, 1, (1, 0, 0)), (1, 1, (0, 0, 2)), (2, 1, (0, 0, 40))], [], [], (81, [(2, -2)]))], 400)
def yD76 : List YD := yD_76 :: yD75
theorem yk_76 : ychk yKD (yct yCT0 yD75) xMT xFT yEX xm59 yD_76.2.1 yD_76.2.2.1 400 = true := by decide +kernel
-- IceBoats.hearWhatComes
def yD_77 : YD := (57, ([(1, 0, 0), (0, 0, 2)], [], false, [(some (.inr (0, [])), []), (some (.inr (1, [])), [])]), [(7, [(0, 1, (1, 0, 0)), (1, 1, (0, 0, 2)), (2, 1, (0, -2147483648, 2147483647)), (3, 1, (1, 17, 1)), (4, 1, (0, 0, 40))], [], [], (81, [(4, -2)]))], 400)
def yD77 : List YD := yD_77 :: yD76
theorem yk_77 : ychk yKD (yct yCT0 yD76) xMT xFT yEX xm57 yD_77.2.1 yD_77.2.2.1 400 = true := by decide +kernel
-- IceBoats$Word.comesAt
def yD_78 : YD := (58, ([(1, 17, 0), (0, 0, 3), (0, 0, 999)], [], true, [(some (.inr (1, [])), []), (some (.inr (0, [])), [])]), [], 400)
def yD78 : List YD := yD_78 :: yD77
theorem yk_78 : ychk yKD (yct yCT0 yD77) xMT xFT yEX xm58 yD_78.2.1 yD_78.2.2.1 400 = true := by decide +kernel
-- IceBoats.loseMetWords
def yD_79 : YD := (59, ([(1, 0, 0), (0, 0, 3)], [], false, [(none, [])]), [(2, [(0, 1, (1, 0, 0)), (1, 1, (0, 0, 3)), (2, 1, (0, 0, 40))], [], [], (81, [(2, -2)]))], 400)
def yD79 : List YD := yD_79 :: yD78
theorem yk_79 : ychk yKD (yct yCT0 yD78) xMT xFT yEX xm59 yD_79.2.1 yD_79.2.2.1 400 = true := by decide +kernel
-- IceBoats.hearWhatComes
def yD_80 : YD := (57, ([(1, 0, 0), (0, 0, 3)], [], false, [(some (.inr (0, [])), []), (some (.inr (1, [])), [])]), [(7, [(0, 1, (1, 0, 0)), (1, 1, (0, 0, 3)), (2, 1, (0, -2147483648, 2147483647)), (3, 1, (1, 17, 1)), (4, 1, (0, 0, 40))], [], [], (81, [(4, -2)]))], 400)
def yD80 : List YD := yD_80 :: yD79
theorem yk_80 : ychk yKD (yct yCT0 yD79) xMT xFT yEX xm57 yD_80.2.1 yD_80.2.2.1 400 = true := by decide +kernel
-- IceBoats$Word.comesAt
def yD_81 : YD := (58, ([(1, 17, 0), (0, 0, 4), (0, 0, 999)], [], true, [(some (.inr (1, [])), []), (some (.inr (0, [])), [])]), [], 400)
def yD81 : List YD := yD_81 :: yD80
theorem yk_81 : ychk yKD (yct yCT0 yD80) xMT xFT yEX xm58 yD_81.2.1 yD_81.2.2.1 400 = true := by decide +kernel
-- IceBoats.loseMetWords
def yD_82 : YD := (59, ([(1, 0, 0), (0, 0, 4)], [], false, [(none, [])]), [(2, [(0, 1, (1, 0, 0)), (1, 1, (0, 0, 4)), (2, 1, (0, 0, 40))], [], [], (81, [(2, -2)]))], 400)
def yD82 : List YD := yD_82 :: yD81
theorem yk_82 : ychk yKD (yct yCT0 yD81) xMT xFT yEX xm59 yD_82.2.1 yD_82.2.2.1 400 = true := by decide +kernel
-- IceBoats.hearWhatComes
def yD_83 : YD := (57, ([(1, 0, 0), (0, 0, 4)], [], false, [(some (.inr (0, [])), []), (some (.inr (1, [])), [])]), [(7, [(0, 1, (1, 0, 0)), (1, 1, (0, 0, 4)), (2, 1, (0, -2147483648, 2147483647)), (3, 1, (1, 17, 1)), (4, 1, (0, 0, 40))], [], [], (81, [(4, -2)]))], 400)
def yD83 : List YD := yD_83 :: yD82
theorem yk_83 : ychk yKD (yct yCT0 yD82) xMT xFT yEX xm57 yD_83.2.1 yD_83.2.2.1 400 = true := by decide +kernel
-- IceBoats$Word.comesAt
def yD_84 : YD := (58, ([(1, 17, 0), (0, 0, 5), (0, 0, 999)], [], true, [(some (.inr (1, [])), []), (some (.inr (0, [])), [])]), [], 400)
def yD84 : List YD := yD_84 :: yD83
theorem yk_84 : ychk yKD (yct yCT0 yD83) xMT xFT yEX xm58 yD_84.2.1 yD_84.2.2.1 400 = true := by decide +kernel
-- IceBoats.loseMetWords
def yD_85 : YD := (59, ([(1, 0, 0), (0, 0, 5)], [], false, [(none, [])]), [(2, [(0, 1, (1, 0, 0)), (1, 1, (0, 0, 5)), (2, 1, (0, 0, 40))], [], [], (81, [(2, -2)]))], 400)
def yD85 : List YD := yD_85 :: yD84
theorem yk_85 : ychk yKD (yct yCT0 yD84) xMT xFT yEX xm59 yD_85.2.1 yD_85.2.2.1 400 = true := by decide +kernel
-- IceBoats.hearWhatComes
def yD_86 : YD := (57, ([(1, 0, 0), (0, 0, 5)], [], false, [(some (.inr (0, [])), []), (some (.inr (1, [])), [])]), [(7, [(0, 1, (1, 0, 0)), (1, 1, (0, 0, 5)), (2, 1, (0, -2147483648, 2147483647)), (3, 1, (1, 17, 1)), (4, 1, (0, 0, 40))], [], [], (81, [(4, -2)]))], 400)
def yD86 : List YD := yD_86 :: yD85
theorem yk_86 : ychk yKD (yct yCT0 yD85) xMT xFT yEX xm57 yD_86.2.1 yD_86.2.2.1 400 = true := by decide +kernel
-- IceBoats$Boat.failIfDue
def yD_87 : YD := (71, ([(1, 14, 0), (0, -2147483648, 2147483647)], [], false, [(none, [])]), [], 400)
def yD87 : List YD := yD_87 :: yD86
theorem yk_87 : ychk yKD (yct yCT0 yD86) xMT xFT yEX xm71 yD_87.2.1 yD_87.2.2.1 400 = true := by decide +kernel
-- IceBoats.tick
def yD_88 : YD := (51, ([(1, 0, 0)], [], false, [(some (.inl (0, -2147483648, 2147483647)), [])]), [(25, [(0, 1, (1, 0, 0)), (1, 1, (0, 0, 6))], [], [], (41, [(1, -2)])), (63, [(0, 1, (1, 0, 0)), (1, 1, (0, -2147483648, 2147483647)), (2, 1, (0, 0, 6))], [], [], (27, [(2, -2)])), (85, [(0, 1, (1, 0, 0)), (1, 1, (0, -2147483648, 2147483647)), (2, 1, (0, 0, 6))], [], [], (13, [(2, -2)]))], 400)
def yD88 : List YD := yD_88 :: yD87
theorem yk_88 : ychk yKD (yct yCT0 yD87) xMT xFT yEX xm51 yD_88.2.1 yD_88.2.2.1 400 = true := by decide +kernel
-- IceBoats$Look.tellOf
def yD_89 : YD := (75, ([(1, 21, 0), (0, -2147483648, 2147483647)], [(0, 2), (0, 3), (0, 1), (0, 0)], true, [(some (.inr (0, [(2, 1)])), [(-3, [(1, 1)])]), (some (.inr (0, [(2, 1)])), [(-1, [(1, -1)])]), (some (.inr (0, [(3, 1)])), [(-2, [(1, 1)]), (2, [(1, -1)])]), (some (.inr (0, [(4, 1)])), [(-1, [(1, 1)]), (1, [(1, -1)])]), (some (.inr (0, [(5, 1)])), [(0, [(1, -1)]), (0, [(1, 1)])])]), [], 400)
def yD89 : List YD := yD_89 :: yD88
theorem yk_89 : ychk yKD (yct yCT0 yD88) xMT xFT yEX xm75 yD_89.2.1 yD_89.2.2.1 400 = true := by decide +kernel
-- IceBoats.looked
def yD_90 : YD := (74, ([(1, 0, 0), (0, -2147483648, 2147483647), (0, -2147483648, 2147483647)], [], false, [(some (.inr (-1, [])), [(-1, [(1, -1)])]), (some (.inr (-1, [])), [(0, [(1, 1)])]), (some (.inr (-1, [])), [(-4, [(2, 1)]), (0, [(1, 1)]), (39, [(1, -1)])]), (some (.inr (1, [])), [(0, [(1, 1)]), (0, [(2, -1)]), (0, [(2, 1)]), (39, [(1, -1)])]), (some (.inr (1, [])), [(-1, [(2, 1)]), (0, [(1, 1)]), (1, [(2, -1)]), (39, [(1, -1)])]), (some (.inr (1, [])), [(-2, [(2, 1)]), (0, [(1, 1)]), (2, [(2, -1)]), (39, [(1, -1)])]), (some (.inr (1, [])), [(-3, [(2, 1)]), (0, [(1, 1)]), (3, [(2, -1)]), (39, [(1, -1)])]), (some (.inr (-1, [])), [(-1, [(2, -1)]), (0, [(1, 1)]), (39, [(1, -1)])])]), [], 400)
def yD90 : List YD := yD_90 :: yD89
theorem yk_90 : ychk yKD (yct yCT0 yD89) xMT xFT yEX xm74 yD_90.2.1 yD_90.2.2.1 400 = true := by decide +kernel
-- IceBoats$Sea.cellsChartedAs
def yD_91 : YD := (77, ([(1, 5, 0), (0, -2147483648, 2147483647)], [], true, [(some (.inl (2, 0, 0)), [])]), [(5, [(0, 1, (1, 5, 0)), (1, 1, (0, -2147483648, 2147483647)), (2, 1, (2, 0, 0)), (4, 1, (0, 0, 64))], [], [], (129, [(3, -2)]))], 400)
def yD91 : List YD := yD_91 :: yD90
theorem yk_91 : ychk yKD (yct yCT0 yD90) xMT xFT yEX xm77 yD_91.2.1 yD_91.2.2.1 400 = true := by decide +kernel
-- IceBoats.match
def yD_92 : YD := (76, ([(1, 0, 0), (0, -2147483648, 2147483647)], [], false, [(some (.inr (-4, [])), [(0, [(1, 1)]), (5, [(1, -1)])]), (some (.inl (0, -2147483648, 2147483647)), [(0, [(1, 1)]), (5, [(1, -1)])]), (some (.inr (-1, [])), [(-6, [(1, 1)])]), (some (.inr (-1, [])), [(-1, [(1, -1)])])]), [], 400)
def yD92 : List YD := yD_92 :: yD91
theorem yk_92 : ychk yKD (yct yCT0 yD91) xMT xFT yEX xm76 yD_92.2.1 yD_92.2.2.1 400 = true := by decide +kernel
-- IceBoats.home
def yD_93 : YD := (78, ([(1, 0, 0), (0, -2147483648, 2147483647)], [], false, [(some (.inr (-4, [])), [(0, [(1, 1)]), (5, [(1, -1)])]), (some (.inr (1, [])), [(0, [(1, 1)]), (5, [(1, -1)])]), (some (.inr (-1, [])), [(-6, [(1, 1)])]), (some (.inr (-1, [])), [(-1, [(1, -1)])])]), [], 400)
def yD93 : List YD := yD_93 :: yD92
theorem yk_93 : ychk yKD (yct yCT0 yD92) xMT xFT yEX xm78 yD_93.2.1 yD_93.2.2.1 400 = true := by decide +kernel
-- IceBoats.isOpenCell
def yD_94 : YD := (80, ([(1, 0, 0), (0, -2147483648, 2147483647)], [], true, [(some (.inr (0, [])), [(-1, [(1, -1)])]), (some (.inr (0, [])), [(-64, [(1, 1)])]), (some (.inr (0, [])), [(0, [(1, 1)]), (63, [(1, -1)])]), (some (.inr (1, [])), [(0, [(1, 1)]), (63, [(1, -1)])])]), [], 400)
def yD94 : List YD := yD_94 :: yD93
theorem yk_94 : ychk yKD (yct yCT0 yD93) xMT xFT yEX xm80 yD_94.2.1 yD_94.2.2.1 400 = true := by decide +kernel
-- IceBoats$Sea.soundTime
def yD_95 : YD := (81, ([(1, 5, 0), (0, -2147483648, 2147483647), (0, -2147483648, 2147483647), (0, -2147483648, 2147483647)], [], false, [(some (.inl (0, -2147483648, 2147483647)), [])]), [(11, [(0, 1, (1, 5, 0)), (1, 1, (0, -2147483648, 2147483647)), (2, 1, (0, -2147483648, 2147483647)), (3, 1, (0, -2147483648, 2147483647)), (4, 1, (0, -2147483648, 2147483647))], [], [], (4294967295, [(4, -2)]))], 400)
def yD95 : List YD := yD_95 :: yD94
theorem yk_95 : ychk yKD (yct yCT0 yD94) xMT xFT yEX xm81 yD_95.2.1 yD_95.2.2.1 400 = true := by decide +kernel
-- IceBoats.time
def yD_96 : YD := (79, ([(1, 0, 0), (0, -2147483648, 2147483647), (0, -2147483648, 2147483647)], [], false, [(some (.inr (-3, [])), [(0, [(1, 1)]), (0, [(2, 1)]), (63, [(1, -1)]), (63, [(2, -1)])]), (some (.inl (0, -8, 2147483647)), [(0, [(1, 1)]), (0, [(2, 1)]), (63, [(1, -1)]), (63, [(2, -1)])]), (some (.inl (0, -2147483648, -10)), [(0, [(1, 1)]), (0, [(2, 1)]), (63, [(1, -1)]), (63, [(2, -1)])]), (some (.inr (-1, [])), [(0, [(1, 1)]), (0, [(2, 1)]), (63, [(1, -1)]), (63, [(2, -1)])]), (some (.inr (-1, [])), [(-64, [(2, 1)]), (0, [(1, 1)]), (63, [(1, -1)])]), (some (.inr (-1, [])), [(-1, [(2, -1)]), (0, [(1, 1)]), (63, [(1, -1)])]), (some (.inr (-1, [])), [(0, [(1, 1)]), (63, [(1, -1)])]), (some (.inr (-1, [])), [(-64, [(1, 1)])]), (some (.inr (-1, [])), [(-1, [(1, -1)])])]), [], 400)
def yD96 : List YD := yD_96 :: yD95
theorem yk_96 : ychk yKD (yct yCT0 yD95) xMT xFT yEX xm79 yD_96.2.1 yD_96.2.2.1 400 = true := by decide +kernel
-- IceBoats.fitsWord
def yD_97 : YD := (83, ([(1, 0, 0), (0, -2147483648, 2147483647), (0, -2147483648, 2147483647)], [(0, 11)], true, [(some (.inr (1, [])), [(-5, [(1, 1)])]), (some (.inr (1, [])), [(1, [(1, -1)])]), (some (.inr (0, [])), [(-4, [(1, 1)]), (-1, [(2, -1)]), (4, [(1, -1)])]), (some (.inr (0, [])), [(-64, [(2, 1)]), (-4, [(1, 1)]), (4, [(1, -1)])]), (some (.inr (1, [])), [(-4, [(1, 1)]), (0, [(2, 1)]), (4, [(1, -1)]), (63, [(2, -1)])]), (some (.inr (0, [])), [(-3, [(1, 1)]), (-1, [(2, -1)]), (3, [(1, -1)])]), (some (.inr (0, [])), [(-5, [(2, 1)]), (-3, [(1, 1)]), (3, [(1, -1)])]), (some (.inr (1, [])), [(-3, [(1, 1)]), (0, [(2, 1)]), (3, [(1, -1)]), (4, [(2, -1)])]), (some (.inr (0, [])), [(-2, [(1, 1)]), (-1, [(2, -1)]), (2, [(1, -1)])]), (some (.inr (0, [])), [(-2, [(1, 1)]), (0, [(2, 1)]), (0, [(2, 1), (3, -1)]), (2, [(1, -1)])]), (some (.inr (1, [])), [(-2, [(1, 1)]), (-1, [(2, -1), (3, 1)]), (-1, [(3, 1)]), (0, [(2, 1)]), (2, [(1, -1)]), (39, [(2, -1)])])]), [], 400)
def yD97 : List YD := yD_97 :: yD96
theorem yk_97 : ychk yKD (yct yCT0 yD96) xMT xFT yEX xm83 yD_97.2.1 yD_97.2.2.1 400 = true := by decide +kernel
-- IceBoats.holdsLook
def yD_98 : YD := (84, ([(1, 0, 0), (0, -2147483648, 2147483647), (0, -2147483648, 2147483647)], [(0, 11)], true, [(some (.inr (0, [])), [(-1, [(2, -1)])]), (some (.inr (0, [])), [(0, [(2, 1)]), (0, [(2, 1), (3, -1)])]), (some (.inr (0, [])), [(-1, [(2, -1), (3, 1)]), (-1, [(3, 1)]), (0, [(2, 1)]), (39, [(2, -1)])]), (some (.inr (1, [])), [(-1, [(2, -1), (3, 1)]), (-1, [(3, 1)]), (0, [(2, 1)]), (39, [(2, -1)])])]), [], 400)
def yD98 : List YD := yD_98 :: yD97
theorem yk_98 : ychk yKD (yct yCT0 yD97) xMT xFT yEX xm84 yD_98.2.1 yD_98.2.2.1 400 = true := by decide +kernel
-- IceBoats.wordAt
def yD_99 : YD := (88, ([(1, 0, 0), (0, -2147483648, 2147483647)], [(0, 10)], true, [(some (.inl (1, 17, 0)), [(-1, [(1, -1), (2, 1)]), (-1, [(2, 1)]), (0, [(1, 1)]), (39, [(1, -1)])]), (some (.inl (3, 0, 0)), [(0, [(1, 1)]), (0, [(1, 1), (2, -1)])]), (some (.inl (3, 0, 0)), [(-1, [(1, -1)])])]), [], 400)
def yD99 : List YD := yD_99 :: yD98
theorem yk_99 : ychk yKD (yct yCT0 yD98) xMT xFT yEX xm88 yD_99.2.1 yD_99.2.2.1 400 = true := by decide +kernel
-- IceBoats$Word.tellOf
def yD_100 : YD := (89, ([(1, 17, 0), (0, -2147483648, 2147483647)], [(0, 3), (0, 2), (0, 1), (0, 0)], true, [(some (.inr (0, [(2, 1)])), [(-3, [(1, 1)])]), (some (.inr (0, [(2, 1)])), [(-1, [(1, -1)])]), (some (.inr (0, [(3, 1)])), [(-2, [(1, 1)]), (2, [(1, -1)])]), (some (.inr (0, [(4, 1)])), [(-1, [(1, 1)]), (1, [(1, -1)])]), (some (.inr (0, [(5, 1)])), [(0, [(1, -1)]), (0, [(1, 1)])])]), [], 400)
def yD100 : List YD := yD_100 :: yD99
theorem yk_100 : ychk yKD (yct yCT0 yD99) xMT xFT yEX xm89 yD_100.2.1 yD_100.2.2.1 400 = true := by decide +kernel
-- IceBoats.word
def yD_101 : YD := (87, ([(1, 0, 0), (0, -2147483648, 2147483647), (0, -2147483648, 2147483647)], [], false, [(some (.inr (-1, [])), [(-1, [(1, -1)])]), (some (.inr (-1, [])), [(0, [(1, 1)])]), (some (.inr (-1, [])), [(-4, [(2, 1)]), (0, [(1, 1)]), (39, [(1, -1)])]), (some (.inr (1, [])), [(0, [(1, 1)]), (0, [(2, -1)]), (0, [(2, 1)]), (39, [(1, -1)])]), (some (.inr (1, [])), [(-1, [(2, 1)]), (0, [(1, 1)]), (1, [(2, -1)]), (39, [(1, -1)])]), (some (.inr (1, [])), [(-2, [(2, 1)]), (0, [(1, 1)]), (2, [(2, -1)]), (39, [(1, -1)])]), (some (.inr (1, [])), [(-3, [(2, 1)]), (0, [(1, 1)]), (3, [(2, -1)]), (39, [(1, -1)])]), (some (.inr (-1, [])), [(-1, [(2, -1)]), (0, [(1, 1)]), (39, [(1, -1)])])]), [], 400)
def yD101 : List YD := yD_101 :: yD100
theorem yk_101 : ychk yKD (yct yCT0 yD100) xMT xFT yEX xm87 yD_101.2.1 yD_101.2.2.1 400 = true := by decide +kernel
-- IceBoats$Word.hearers
def yD_102 : YD := (92, ([(1, 17, 0)], [], true, [(some (.inl (0, -2147483648, 2147483647)), [])]), [(4, [(0, 1, (1, 17, 0)), (1, 1, (0, -2147483648, 2147483647)), (2, 1, (0, 0, 6))], [], [], (13, [(2, -2)]))], 400)
def yD102 : List YD := yD_102 :: yD101
theorem yk_102 : ychk yKD (yct yCT0 yD101) xMT xFT yEX xm92 yD_102.2.1 yD_102.2.2.1 400 = true := by decide +kernel
-- IceBoats.iceOfLook
def yD_103 : YD := (91, ([(1, 0, 0), (0, -2147483648, 2147483647)], [(0, 11)], true, [(some (.inr (-9, [])), [(-1, [(1, -1)])]), (some (.inr (-9, [])), [(0, [(1, 1)]), (0, [(1, 1), (2, -1)])]), (some (.inl (0, -2147483648, 2147483647)), [(-1, [(1, -1), (2, 1)]), (-1, [(2, 1)]), (0, [(1, 1)]), (39, [(1, -1)])])]), [], 400)
def yD103 : List YD := yD_103 :: yD102
theorem yk_103 : ychk yKD (yct yCT0 yD102) xMT xFT yEX xm91 yD_103.2.1 yD_103.2.2.1 400 = true := by decide +kernel
-- IceBoats.tells
def yD_104 : YD := (90, ([(1, 0, 0), (0, -2147483648, 2147483647), (0, -2147483648, 2147483647)], [], false, [(some (.inl (0, -2147483648, 2147483647)), [])]), [], 400)
def yD104 : List YD := yD_104 :: yD103
theorem yk_104 : ychk yKD (yct yCT0 yD103) xMT xFT yEX xm90 yD_104.2.1 yD_104.2.2.1 400 = true := by decide +kernel
-- IceBoats.heard
def yD_105 : YD := (93, ([(1, 0, 0), (0, -2147483648, 2147483647), (0, -2147483648, 2147483647)], [(0, 10)], true, [(some (.inr (-1, [])), [(-1, [(1, -1)])]), (some (.inr (-1, [])), [(0, [(1, 1)]), (0, [(1, 1), (3, -1)])]), (some (.inr (-1, [])), [(-1, [(1, -1), (3, 1)]), (-1, [(2, -1)]), (-1, [(3, 1)]), (0, [(1, 1)]), (39, [(1, -1)])]), (some (.inr (-1, [])), [(-6, [(2, 1)]), (-1, [(1, -1), (3, 1)]), (-1, [(3, 1)]), (0, [(1, 1)]), (39, [(1, -1)])]), (some (.inl (0, -2147483648, 2147483647)), [(-1, [(1, -1), (3, 1)]), (-1, [(3, 1)]), (0, [(1, 1)]), (0, [(2, 1)]), (5, [(2, -1)]), (39, [(1, -1)])])]), [], 400)
def yD105 : List YD := yD_105 :: yD104
theorem yk_105 : ychk yKD (yct yCT0 yD104) xMT xFT yEX xm93 yD_105.2.1 yD_105.2.2.1 400 = true := by decide +kernel
-- IceBoats.isBoatOrNone
def yD_106 : YD := (95, ([(0, -2147483648, 2147483647)], [], true, [(some (.inr (0, [])), [(-1, [(0, -1)]), (8, [(0, 1)])]), (some (.inr (0, [])), [(-6, [(0, 1)])]), (some (.inr (1, [])), [(0, [(0, 1)]), (5, [(0, -1)])]), (some (.inr (0, [])), [(-10, [(0, -1)])]), (some (.inr (1, [])), [(-9, [(0, -1)]), (9, [(0, 1)])])]), [], 400)
def yD106 : List YD := yD_106 :: yD105
theorem yk_106 : ychk yKD (yct yCT0 yD105) xMT xFT yEX xm95 yD_106.2.1 yD_106.2.2.1 400 = true := by decide +kernel
-- IceBoats$Word.knownBy
def yD_107 : YD := (96, ([(1, 17, 0), (0, 0, 5)], [(0, 1), (0, 2)], true, [(some (.inr (0, [(3, 1)])), [(0, [(1, -1), (2, 1)]), (0, [(1, 1), (2, -1)])]), (some (.inl (0, 0, 2147483647)), [(-1, [(1, 1)]), (-1, [(1, 1), (2, -1)]), (4, [(2, -1)])]), (some (.inr (-9, [])), [(-1, [(1, 1)]), (-1, [(1, 1), (2, -1)]), (4, [(2, -1)])]), (some (.inl (0, 0, 2147483647)), [(-1, [(1, -1), (2, 1)]), (-1, [(2, 1)]), (4, [(1, -1)])]), (some (.inr (-9, [])), [(-1, [(1, -1), (2, 1)]), (-1, [(2, 1)]), (4, [(1, -1)])])]), [], 400)
def yD107 : List YD := yD_107 :: yD106
theorem yk_107 : ychk yKD (yct yCT0 yD106) xMT xFT yEX xm96 yD_107.2.1 yD_107.2.2.1 400 = true := by decide +kernel
-- IceBoats.firstHeardFrom
def yD_108 : YD := (98, ([(1, 0, 0), (0, 1, 5), (0, 0, 4), (0, -9, -1)], [], true, [(some (.inl (0, -9, 2147483647)), [])]), [(16, [(0, 1, (1, 0, 0)), (1, 1, (0, 1, 5)), (2, 1, (0, 0, 4)), (3, 1, (0, -8, -1)), (4, 1, (0, -9, 2147483647)), (5, 1, (0, 0, 40))], [], [], (81, [(5, -2)]))], 400)
def yD108 : List YD := yD_108 :: yD107
theorem yk_108 : ychk yKD (yct yCT0 yD107) xMT xFT yEX xm98 yD_108.2.1 yD_108.2.2.1 400 = true := by decide +kernel
-- IceBoats.firstHeardFrom
def yD_109 : YD := (98, ([(1, 0, 0), (0, 0, 3), (0, 1, 4), (0, -9, -1)], [], true, [(some (.inl (0, -9, 2147483647)), [])]), [(16, [(0, 1, (1, 0, 0)), (1, 1, (0, 0, 3)), (2, 1, (0, 1, 4)), (3, 1, (0, -8, -1)), (4, 1, (0, -9, 2147483647)), (5, 1, (0, 0, 40))], [], [], (81, [(5, -2)]))], 400)
def yD109 : List YD := yD_109 :: yD108
theorem yk_109 : ychk yKD (yct yCT0 yD108) xMT xFT yEX xm98 yD_109.2.1 yD_109.2.2.1 400 = true := by decide +kernel
-- IceBoats.firstHeardFrom
def yD_110 : YD := (98, ([(1, 0, 0), (0, 1, 5), (0, 0, 4), (0, 0, 2147483647)], [], true, [(some (.inl (0, -9, 2147483647)), [])]), [(16, [(0, 1, (1, 0, 0)), (1, 1, (0, 1, 5)), (2, 1, (0, 0, 4)), (3, 1, (0, 0, 2147483647)), (4, 1, (0, -9, 2147483647)), (5, 1, (0, 0, 40))], [], [], (81, [(5, -2)]))], 400)
def yD110 : List YD := yD_110 :: yD109
theorem yk_110 : ychk yKD (yct yCT0 yD109) xMT xFT yEX xm98 yD_110.2.1 yD_110.2.2.1 400 = true := by decide +kernel
-- IceBoats.firstHeardFrom
def yD_111 : YD := (98, ([(1, 0, 0), (0, 0, 3), (0, 1, 4), (0, 0, 2147483647)], [], true, [(some (.inl (0, -9, 2147483647)), [])]), [(16, [(0, 1, (1, 0, 0)), (1, 1, (0, 0, 3)), (2, 1, (0, 1, 4)), (3, 1, (0, 0, 2147483647)), (4, 1, (0, -9, 2147483647)), (5, 1, (0, 0, 40))], [], [], (81, [(5, -2)]))], 400)
def yD111 : List YD := yD_111 :: yD110
theorem yk_111 : ychk yKD (yct yCT0 yD110) xMT xFT yEX xm98 yD_111.2.1 yD_111.2.2.1 400 = true := by decide +kernel
-- IceBoats.firstHeardFrom
def yD_112 : YD := (98, ([(1, 0, 0), (0, 0, 4), (0, 1, 5), (0, -9, -1)], [], true, [(some (.inl (0, -9, 2147483647)), [])]), [(16, [(0, 1, (1, 0, 0)), (1, 1, (0, 0, 4)), (2, 1, (0, 1, 5)), (3, 1, (0, -8, -1)), (4, 1, (0, -9, 2147483647)), (5, 1, (0, 0, 40))], [], [], (81, [(5, -2)]))], 400)
def yD112 : List YD := yD_112 :: yD111
theorem yk_112 : ychk yKD (yct yCT0 yD111) xMT xFT yEX xm98 yD_112.2.1 yD_112.2.2.1 400 = true := by decide +kernel
-- IceBoats.firstHeardFrom
def yD_113 : YD := (98, ([(1, 0, 0), (0, 0, 4), (0, 1, 5), (0, 0, 2147483647)], [], true, [(some (.inl (0, -9, 2147483647)), [])]), [(16, [(0, 1, (1, 0, 0)), (1, 1, (0, 0, 4)), (2, 1, (0, 1, 5)), (3, 1, (0, 0, 2147483647)), (4, 1, (0, -9, 2147483647)), (5, 1, (0, 0, 40))], [], [], (81, [(5, -2)]))], 400)
def yD113 : List YD := yD_113 :: yD112
theorem yk_113 : ychk yKD (yct yCT0 yD112) xMT xFT yEX xm98 yD_113.2.1 yD_113.2.2.1 400 = true := by decide +kernel
-- IceBoats.firstHeardFrom
def yD_114 : YD := (98, ([(1, 0, 0), (0, 1, 5), (0, 0, 4), (0, -2147483648, 2147483647)], [], true, [(some (.inl (0, -9, 2147483647)), [])]), [(16, [(0, 1, (1, 0, 0)), (1, 1, (0, 1, 5)), (2, 1, (0, 0, 4)), (3, 1, (0, -2147483648, 2147483647)), (4, 1, (0, -9, 2147483647)), (5, 1, (0, 0, 40))], [], [], (81, [(5, -2)]))], 400)
def yD114 : List YD := yD_114 :: yD113
theorem yk_114 : ychk yKD (yct yCT0 yD113) xMT xFT yEX xm98 yD_114.2.1 yD_114.2.2.1 400 = true := by decide +kernel
-- IceBoats.firstHeardFrom
def yD_115 : YD := (98, ([(1, 0, 0), (0, 0, 4), (0, 1, 5), (0, -2147483648, 2147483647)], [], true, [(some (.inl (0, -9, 2147483647)), [])]), [(16, [(0, 1, (1, 0, 0)), (1, 1, (0, 0, 4)), (2, 1, (0, 1, 5)), (3, 1, (0, -2147483648, 2147483647)), (4, 1, (0, -9, 2147483647)), (5, 1, (0, 0, 40))], [], [], (81, [(5, -2)]))], 400)
def yD115 : List YD := yD_115 :: yD114
theorem yk_115 : ychk yKD (yct yCT0 yD114) xMT xFT yEX xm98 yD_115.2.1 yD_115.2.2.1 400 = true := by decide +kernel
-- IceBoats.knownOf
def yD_116 : YD := (97, ([(1, 0, 0), (1, 17, 0), (0, 0, 5), (0, 0, 5)], [(1, 1), (1, 2)], true, [(some (.inr (-9, [])), [(-1, [(3, -1), (4, 1)]), (-1, [(4, 1)]), (0, [(2, -1), (3, 1)]), (0, [(2, 1), (3, -1)]), (4, [(2, -1)]), (4, [(3, -1)])]), (some (.inl (0, -9, 2147483647)), [(-1, [(2, 1)]), (-1, [(2, 1), (3, -1)]), (-1, [(3, -1), (4, 1)]), (-1, [(4, 1)]), (4, [(3, -1)])]), (some (.inl (0, -9, 2147483647)), [(-1, [(2, -1), (3, 1)]), (-1, [(3, -1), (4, 1)]), (-1, [(3, 1)]), (-1, [(4, 1)]), (3, [(2, -1)]), (4, [(3, -1)])]), (some (.inl (0, 0, 2147483647)), [(-1, [(3, -1), (4, 1)]), (-1, [(4, 1)]), (0, [(2, -1), (3, 1)]), (0, [(2, 1), (3, -1)]), (4, [(2, -1)]), (4, [(3, -1)])]), (some (.inr (-9, [])), [(-1, [(2, 1)]), (-1, [(3, 1)]), (-1, [(3, 1), (4, -1)]), (0, [(2, -1), (3, 1)]), (0, [(2, 1), (3, -1)]), (4, [(4, -1)])]), (some (.inl (0, -9, 2147483647)), [(-2, [(2, 1)]), (-1, [(2, 1), (3, -1)]), (-1, [(3, 1)]), (-1, [(3, 1), (4, -1)]), (4, [(3, -1)]), (4, [(4, -1)])]), (some (.inl (0, -9, 2147483647)), [(-1, [(2, -1), (3, 1)]), (-1, [(3, 1)]), (-1, [(3, 1), (4, -1)]), (4, [(2, -1)]), (4, [(4, -1)])]), (some (.inl (0, 0, 2147483647)), [(-1, [(2, 1)]), (-1, [(3, 1)]), (-1, [(3, 1), (4, -1)]), (0, [(2, -1), (3, 1)]), (0, [(2, 1), (3, -1)]), (4, [(4, -1)])]), (some (.inr (0, [(5, 1)])), [(0, [(2, -1), (3, 1)]), (0, [(2, 1), (3, -1)]), (0, [(3, -1), (4, 1)]), (0, [(3, 1), (4, -1)])]), (some (.inl (0, -9, 2147483647)), [(-1, [(2, 1)]), (-1, [(2, 1), (3, -1)]), (0, [(3, -1), (4, 1)]), (0, [(3, 1), (4, -1)]), (4, [(3, -1)])]), (some (.inl (0, -9, 2147483647)), [(-1, [(2, -1), (3, 1)]), (-1, [(3, 1)]), (0, [(3, -1), (4, 1)]), (0, [(3, 1), (4, -1)]), (4, [(2, -1)])])]), [], 400)
def yD116 : List YD := yD_116 :: yD115
theorem yk_116 : ychk yKD (yct yCT0 yD115) xMT xFT yEX xm97 yD_116.2.1 yD_116.2.2.1 400 = true := by decide +kernel
-- IceBoats.knownOfKnown
def yD_117 : YD := (99, ([(1, 0, 0), (1, 17, 0), (0, 0, 5), (0, 0, 5), (0, 0, 5)], [], true, [(some (.inl (0, -2147483648, 2147483647)), [])]), [], 400)
def yD117 : List YD := yD_117 :: yD116
theorem yk_117 : ychk yKD (yct yCT0 yD116) xMT xFT yEX xm99 yD_117.2.1 yD_117.2.2.1 400 = true := by decide +kernel
-- IceBoats.knows
def yD_118 : YD := (94, ([(1, 0, 0), (0, -2147483648, 2147483647), (0, -2147483648, 2147483647), (0, -2147483648, 2147483647), (0, -2147483648, 2147483647)], [], true, [(some (.inl (0, -2147483648, 2147483647)), [])]), [], 400)
def yD118 : List YD := yD_118 :: yD117
theorem yk_118 : ychk yKD (yct yCT0 yD117) xMT xFT yEX xm94 yD_118.2.1 yD_118.2.2.1 400 = true := by decide +kernel
-- IceBoats.laterOrNone
def yD_119 : YD := (102, ([(0, -2147483648, 2147483647), (0, -2147483648, 2147483647)], [], true, [(some (.inr (-9, [])), [(-9, [(1, -1)]), (8, [(0, 1)]), (9, [(1, 1)])]), (some (.inl (0, -2147483648, 2147483647)), [(8, [(0, 1)]), (8, [(1, 1)])]), (some (.inl (0, -2147483648, 2147483647)), [(-10, [(1, -1)]), (8, [(0, 1)])]), (some (.inr (-9, [])), [(-10, [(0, -1)]), (-9, [(1, -1)]), (9, [(1, 1)])]), (some (.inl (0, -2147483648, 2147483647)), [(-10, [(0, -1)]), (8, [(1, 1)])]), (some (.inl (0, -2147483648, 2147483647)), [(-10, [(0, -1)]), (-10, [(1, -1)])]), (some (.inr (-9, [])), [(-9, [(0, -1)]), (9, [(0, 1)])])]), [], 400)
def yD119 : List YD := yD_119 :: yD118
theorem yk_119 : ychk yKD (yct yCT0 yD118) xMT xFT yEX xm102 yD_119.2.1 yD_119.2.2.1 400 = true := by decide +kernel
-- IceBoats.knownOfAll
def yD_120 : YD := (101, ([(1, 0, 0), (1, 17, 0), (0, 0, 0), (0, 1, 63), (0, 1, 3)], [], true, [(some (.inl (0, -2147483648, 2147483647)), [])]), [(10, [(0, 1, (1, 0, 0)), (1, 1, (1, 17, 0)), (2, 1, (0, 0, 0)), (3, 1, (0, 1, 63)), (4, 1, (0, 1, 3)), (5, 1, (0, -2147483648, 2147483647)), (6, 1, (0, 0, 6))], [(1, 1, (0, 0, 5)), (1, 2, (0, -2147483648, 2147483647))], [], (87, [(6, -2)])), (64, [(0, 1, (1, 0, 0)), (1, 1, (1, 17, 0)), (2, 1, (0, 0, 0)), (3, 1, (0, 1, 63)), (4, 1, (0, 1, 3)), (5, 1, (0, -2147483648, 2147483647)), (6, 1, (0, 0, 36))], [(1, 1, (0, 0, 5)), (1, 2, (0, -2147483648, 2147483647))], [], (73, [(6, -2)]))], 400)
def yD120 : List YD := yD_120 :: yD119
theorem yk_120 : ychk yKD (yct yCT0 yD119) xMT xFT yEX xm101 yD_120.2.1 yD_120.2.2.1 400 = true := by decide +kernel
-- IceBoats.knownOfAll
def yD_121 : YD := (101, ([(1, 0, 0), (1, 17, 0), (0, 0, 1), (0, 1, 63), (0, 1, 3)], [], true, [(some (.inl (0, -2147483648, 2147483647)), [])]), [(10, [(0, 1, (1, 0, 0)), (1, 1, (1, 17, 0)), (2, 1, (0, 0, 1)), (3, 1, (0, 1, 63)), (4, 1, (0, 1, 3)), (5, 1, (0, -2147483648, 2147483647)), (6, 1, (0, 0, 6))], [(1, 1, (0, 0, 5)), (1, 2, (0, -2147483648, 2147483647))], [], (87, [(6, -2)])), (64, [(0, 1, (1, 0, 0)), (1, 1, (1, 17, 0)), (2, 1, (0, 0, 1)), (3, 1, (0, 1, 63)), (4, 1, (0, 1, 3)), (5, 1, (0, -2147483648, 2147483647)), (6, 1, (0, 0, 36))], [(1, 1, (0, 0, 5)), (1, 2, (0, -2147483648, 2147483647))], [], (73, [(6, -2)]))], 400)
def yD121 : List YD := yD_121 :: yD120
theorem yk_121 : ychk yKD (yct yCT0 yD120) xMT xFT yEX xm101 yD_121.2.1 yD_121.2.2.1 400 = true := by decide +kernel
-- IceBoats.knownOfAll
def yD_122 : YD := (101, ([(1, 0, 0), (1, 17, 0), (0, 0, 2), (0, 1, 63), (0, 1, 3)], [], true, [(some (.inl (0, -2147483648, 2147483647)), [])]), [(10, [(0, 1, (1, 0, 0)), (1, 1, (1, 17, 0)), (2, 1, (0, 0, 2)), (3, 1, (0, 1, 63)), (4, 1, (0, 1, 3)), (5, 1, (0, -2147483648, 2147483647)), (6, 1, (0, 0, 6))], [(1, 1, (0, 0, 5)), (1, 2, (0, -2147483648, 2147483647))], [], (87, [(6, -2)])), (64, [(0, 1, (1, 0, 0)), (1, 1, (1, 17, 0)), (2, 1, (0, 0, 2)), (3, 1, (0, 1, 63)), (4, 1, (0, 1, 3)), (5, 1, (0, -2147483648, 2147483647)), (6, 1, (0, 0, 36))], [(1, 1, (0, 0, 5)), (1, 2, (0, -2147483648, 2147483647))], [], (73, [(6, -2)]))], 400)
def yD122 : List YD := yD_122 :: yD121
theorem yk_122 : ychk yKD (yct yCT0 yD121) xMT xFT yEX xm101 yD_122.2.1 yD_122.2.2.1 400 = true := by decide +kernel
-- IceBoats.knownOfAll
def yD_123 : YD := (101, ([(1, 0, 0), (1, 17, 0), (0, 0, 3), (0, 1, 63), (0, 1, 3)], [], true, [(some (.inl (0, -2147483648, 2147483647)), [])]), [(10, [(0, 1, (1, 0, 0)), (1, 1, (1, 17, 0)), (2, 1, (0, 0, 3)), (3, 1, (0, 1, 63)), (4, 1, (0, 1, 3)), (5, 1, (0, -2147483648, 2147483647)), (6, 1, (0, 0, 6))], [(1, 1, (0, 0, 5)), (1, 2, (0, -2147483648, 2147483647))], [], (87, [(6, -2)])), (64, [(0, 1, (1, 0, 0)), (1, 1, (1, 17, 0)), (2, 1, (0, 0, 3)), (3, 1, (0, 1, 63)), (4, 1, (0, 1, 3)), (5, 1, (0, -2147483648, 2147483647)), (6, 1, (0, 0, 36))], [(1, 1, (0, 0, 5)), (1, 2, (0, -2147483648, 2147483647))], [], (73, [(6, -2)]))], 400)
def yD123 : List YD := yD_123 :: yD122
theorem yk_123 : ychk yKD (yct yCT0 yD122) xMT xFT yEX xm101 yD_123.2.1 yD_123.2.2.1 400 = true := by decide +kernel
-- IceBoats.knownOfAll
def yD_124 : YD := (101, ([(1, 0, 0), (1, 17, 0), (0, 0, 4), (0, 1, 63), (0, 1, 3)], [], true, [(some (.inl (0, -2147483648, 2147483647)), [])]), [(10, [(0, 1, (1, 0, 0)), (1, 1, (1, 17, 0)), (2, 1, (0, 0, 4)), (3, 1, (0, 1, 63)), (4, 1, (0, 1, 3)), (5, 1, (0, -2147483648, 2147483647)), (6, 1, (0, 0, 6))], [(1, 1, (0, 0, 5)), (1, 2, (0, -2147483648, 2147483647))], [], (87, [(6, -2)])), (64, [(0, 1, (1, 0, 0)), (1, 1, (1, 17, 0)), (2, 1, (0, 0, 4)), (3, 1, (0, 1, 63)), (4, 1, (0, 1, 3)), (5, 1, (0, -2147483648, 2147483647)), (6, 1, (0, 0, 36))], [(1, 1, (0, 0, 5)), (1, 2, (0, -2147483648, 2147483647))], [], (73, [(6, -2)]))], 400)
def yD124 : List YD := yD_124 :: yD123
theorem yk_124 : ychk yKD (yct yCT0 yD123) xMT xFT yEX xm101 yD_124.2.1 yD_124.2.2.1 400 = true := by decide +kernel
-- IceBoats.knownOfAll
def yD_125 : YD := (101, ([(1, 0, 0), (1, 17, 0), (0, 0, 5), (0, 1, 63), (0, 1, 3)], [], true, [(some (.inl (0, -2147483648, 2147483647)), [])]), [(10, [(0, 1, (1, 0, 0)), (1, 1, (1, 17, 0)), (2, 1, (0, 0, 5)), (3, 1, (0, 1, 63)), (4, 1, (0, 1, 3)), (5, 1, (0, -2147483648, 2147483647)), (6, 1, (0, 0, 6))], [(1, 1, (0, 0, 5)), (1, 2, (0, -2147483648, 2147483647))], [], (87, [(6, -2)])), (64, [(0, 1, (1, 0, 0)), (1, 1, (1, 17, 0)), (2, 1, (0, 0, 5)), (3, 1, (0, 1, 63)), (4, 1, (0, 1, 3)), (5, 1, (0, -2147483648, 2147483647)), (6, 1, (0, 0, 36))], [(1, 1, (0, 0, 5)), (1, 2, (0, -2147483648, 2147483647))], [], (73, [(6, -2)]))], 400)
def yD125 : List YD := yD_125 :: yD124
theorem yk_125 : ychk yKD (yct yCT0 yD124) xMT xFT yEX xm101 yD_125.2.1 yD_125.2.2.1 400 = true := by decide +kernel
-- IceBoats.allKnow
def yD_126 : YD := (100, ([(1, 0, 0), (0, -2147483648, 2147483647), (0, -2147483648, 2147483647), (0, -2147483648, 2147483647)], [], true, [(some (.inl (0, -2147483648, 2147483647)), [])]), [(41, [(0, 1, (1, 0, 0)), (1, 1, (0, 0, 39)), (2, 1, (0, 1, 63)), (3, 1, (0, 1, 3)), (4, 1, (1, 17, 0)), (5, 1, (0, -2147483648, 2147483647)), (6, 1, (0, 0, 6))], [(0, 10, (0, 1, 40))], [(-1, [(1, -1), (7, 1)])], (13, [(6, -2)]))], 400)
def yD126 : List YD := yD_126 :: yD125
theorem yk_126 : ychk yKD (yct yCT0 yD125) xMT xFT yEX xm100 yD_126.2.1 yD_126.2.2.1 400 = true := by decide +kernel
-- IceBoats$RuleReader.letterOf
def yD_127 : YD := (105, ([(0, -2147483648, 2147483647)], [], true, [(some (.inr (-9, [])), []), (some (.inr (0, [])), []), (some (.inr (1, [])), []), (some (.inr (2, [])), []), (some (.inr (3, [])), [])]), [], 400)
def yD127 : List YD := yD_127 :: yD126
theorem yk_127 : ychk yKD (yct yCT0 yD126) xMT xFT yEX xm105 yD_127.2.1 yD_127.2.2.1 400 = true := by decide +kernel
-- IceBoats$RuleReader.endOfDigits
def yD_128 : YD := (106, ([(1, 3, 0), (0, 1, 1)], [(0, 1)], true, [(some (.inr (4, [])), [(-5, [(2, 1)])]), (some (.inr (4, [])), [(-4, [(2, 1)]), (4, [(2, -1)])]), (some (.inr (3, [])), [(-4, [(2, 1)])]), (some (.inr (3, [])), [(-3, [(2, 1)]), (3, [(2, -1)])]), (some (.inr (2, [])), [(-3, [(2, 1)])]), (some (.inr (2, [])), [(-2, [(2, 1)]), (2, [(2, -1)])]), (some (.inr (1, [])), [(-2, [(2, 1)])]), (some (.inr (1, [])), [(1, [(2, -1)])])]), [], 400)
def yD128 : List YD := yD_128 :: yD127
theorem yk_128 : ychk yKD (yct yCT0 yD127) xMT xFT yEX xm106 yD_128.2.1 yD_128.2.2.1 400 = true := by decide +kernel
-- IceBoats$RuleReader.numberIn
def yD_129 : YD := (107, ([(1, 3, 0), (0, 1, 1), (0, 1, 2)], [], true, [(some (.inl (0, -2147483648, 2147483647)), [])]), [(5, [(0, 1, (1, 3, 0)), (1, 1, (0, 1, 1)), (2, 1, (0, 1, 2)), (3, 1, (0, -2147483648, 2147483647)), (4, 1, (0, 1, 2))], [], [], (5, [(4, -2)]))], 400)
def yD129 : List YD := yD_129 :: yD128
theorem yk_129 : ychk yKD (yct yCT0 yD128) xMT xFT yEX xm107 yD_129.2.1 yD_129.2.2.1 400 = true := by decide +kernel
-- IceBoats$RuleReader.numberIn
def yD_130 : YD := (107, ([(1, 3, 0), (0, 1, 1), (0, 1, 3)], [], true, [(some (.inl (0, -2147483648, 2147483647)), [])]), [(5, [(0, 1, (1, 3, 0)), (1, 1, (0, 1, 1)), (2, 1, (0, 1, 3)), (3, 1, (0, -2147483648, 2147483647)), (4, 1, (0, 1, 3))], [], [], (7, [(4, -2)]))], 400)
def yD130 : List YD := yD_130 :: yD129
theorem yk_130 : ychk yKD (yct yCT0 yD129) xMT xFT yEX xm107 yD_130.2.1 yD_130.2.2.1 400 = true := by decide +kernel
-- IceBoats$RuleReader.numberIn
def yD_131 : YD := (107, ([(1, 3, 0), (0, 1, 1), (0, 1, 4)], [], true, [(some (.inl (0, -2147483648, 2147483647)), [])]), [(5, [(0, 1, (1, 3, 0)), (1, 1, (0, 1, 1)), (2, 1, (0, 1, 4)), (3, 1, (0, -2147483648, 2147483647)), (4, 1, (0, 1, 4))], [], [], (9, [(4, -2)]))], 400)
def yD131 : List YD := yD_131 :: yD130
theorem yk_131 : ychk yKD (yct yCT0 yD130) xMT xFT yEX xm107 yD_131.2.1 yD_131.2.2.1 400 = true := by decide +kernel
-- IceBoats$RuleReader.endOfDigits
def yD_132 : YD := (106, ([(1, 3, 0), (0, 1, 5)], [(0, 1)], true, [(some (.inr (3, [(1, 1)])), [(-5, [(2, 1)]), (-4, [(1, -1), (2, 1)]), (-3, [(1, -1), (2, 1)]), (-2, [(1, -1), (2, 1)]), (-1, [(1, -1), (2, 1)])]), (some (.inr (3, [(1, 1)])), [(-4, [(2, 1)]), (-3, [(1, -1), (2, 1)]), (-2, [(1, -1), (2, 1)]), (-1, [(1, -1), (2, 1)]), (3, [(1, 1), (2, -1)]), (8, [(2, -1)])]), (some (.inr (2, [(1, 1)])), [(-4, [(2, 1)]), (-3, [(1, -1), (2, 1)]), (-2, [(1, -1), (2, 1)]), (-1, [(1, -1), (2, 1)])]), (some (.inr (2, [(1, 1)])), [(-3, [(2, 1)]), (-2, [(1, -1), (2, 1)]), (-1, [(1, -1), (2, 1)]), (2, [(1, 1), (2, -1)]), (7, [(2, -1)])]), (some (.inr (1, [(1, 1)])), [(-3, [(2, 1)]), (-2, [(1, -1), (2, 1)]), (-1, [(1, -1), (2, 1)])]), (some (.inr (1, [(1, 1)])), [(-2, [(2, 1)]), (-1, [(1, -1), (2, 1)]), (1, [(1, 1), (2, -1)]), (6, [(2, -1)])]), (some (.inr (0, [(1, 1)])), [(-2, [(2, 1)]), (-1, [(1, -1), (2, 1)])]), (some (.inr (0, [(1, 1)])), [(0, [(1, 1), (2, -1)]), (5, [(2, -1)])])]), [], 400)
def yD132 : List YD := yD_132 :: yD131
theorem yk_132 : ychk yKD (yct yCT0 yD131) xMT xFT yEX xm106 yD_132.2.1 yD_132.2.2.1 400 = true := by decide +kernel
-- IceBoats$RuleReader.numberIn
def yD_133 : YD := (107, ([(1, 3, 0), (0, 1, 5), (0, 1, 6)], [], true, [(some (.inl (0, -2147483648, 2147483647)), [])]), [(5, [(0, 1, (1, 3, 0)), (1, 1, (0, 1, 5)), (2, 1, (0, 1, 6)), (3, 1, (0, -2147483648, 2147483647)), (4, 1, (0, 1, 6))], [], [], (13, [(4, -2)]))], 400)
def yD133 : List YD := yD_133 :: yD132
theorem yk_133 : ychk yKD (yct yCT0 yD132) xMT xFT yEX xm107 yD_133.2.1 yD_133.2.2.1 400 = true := by decide +kernel
-- IceBoats$RuleReader.numberIn
def yD_134 : YD := (107, ([(1, 3, 0), (0, 1, 5), (0, 1, 7)], [], true, [(some (.inl (0, -2147483648, 2147483647)), [])]), [(5, [(0, 1, (1, 3, 0)), (1, 1, (0, 1, 5)), (2, 1, (0, 1, 7)), (3, 1, (0, -2147483648, 2147483647)), (4, 1, (0, 1, 7))], [], [], (15, [(4, -2)]))], 400)
def yD134 : List YD := yD_134 :: yD133
theorem yk_134 : ychk yKD (yct yCT0 yD133) xMT xFT yEX xm107 yD_134.2.1 yD_134.2.2.1 400 = true := by decide +kernel
-- IceBoats$RuleReader.numberIn
def yD_135 : YD := (107, ([(1, 3, 0), (0, 1, 5), (0, 1, 8)], [], true, [(some (.inl (0, -2147483648, 2147483647)), [])]), [(5, [(0, 1, (1, 3, 0)), (1, 1, (0, 1, 5)), (2, 1, (0, 1, 8)), (3, 1, (0, -2147483648, 2147483647)), (4, 1, (0, 1, 8))], [], [], (17, [(4, -2)]))], 400)
def yD135 : List YD := yD_135 :: yD134
theorem yk_135 : ychk yKD (yct yCT0 yD134) xMT xFT yEX xm107 yD_135.2.1 yD_135.2.2.1 400 = true := by decide +kernel
-- IceBoats$RuleReader.endOfDigits
def yD_136 : YD := (106, ([(1, 3, 0), (0, 1, 9)], [(0, 1)], true, [(some (.inr (3, [(1, 1)])), [(-5, [(2, 1)]), (-4, [(1, -1), (2, 1)]), (-3, [(1, -1), (2, 1)]), (-2, [(1, -1), (2, 1)]), (-1, [(1, -1), (2, 1)])]), (some (.inr (3, [(1, 1)])), [(-4, [(2, 1)]), (-3, [(1, -1), (2, 1)]), (-2, [(1, -1), (2, 1)]), (-1, [(1, -1), (2, 1)]), (3, [(1, 1), (2, -1)]), (12, [(2, -1)])]), (some (.inr (2, [(1, 1)])), [(-4, [(2, 1)]), (-3, [(1, -1), (2, 1)]), (-2, [(1, -1), (2, 1)]), (-1, [(1, -1), (2, 1)])]), (some (.inr (2, [(1, 1)])), [(-3, [(2, 1)]), (-2, [(1, -1), (2, 1)]), (-1, [(1, -1), (2, 1)]), (2, [(1, 1), (2, -1)]), (11, [(2, -1)])]), (some (.inr (1, [(1, 1)])), [(-3, [(2, 1)]), (-2, [(1, -1), (2, 1)]), (-1, [(1, -1), (2, 1)])]), (some (.inr (1, [(1, 1)])), [(-2, [(2, 1)]), (-1, [(1, -1), (2, 1)]), (1, [(1, 1), (2, -1)]), (10, [(2, -1)])]), (some (.inr (0, [(1, 1)])), [(-2, [(2, 1)]), (-1, [(1, -1), (2, 1)])]), (some (.inr (0, [(1, 1)])), [(0, [(1, 1), (2, -1)]), (9, [(2, -1)])])]), [], 400)
def yD136 : List YD := yD_136 :: yD135
theorem yk_136 : ychk yKD (yct yCT0 yD135) xMT xFT yEX xm106 yD_136.2.1 yD_136.2.2.1 400 = true := by decide +kernel
-- IceBoats$RuleReader.numberIn
def yD_137 : YD := (107, ([(1, 3, 0), (0, 1, 9), (0, 1, 10)], [], true, [(some (.inl (0, -2147483648, 2147483647)), [])]), [(5, [(0, 1, (1, 3, 0)), (1, 1, (0, 1, 9)), (2, 1, (0, 1, 10)), (3, 1, (0, -2147483648, 2147483647)), (4, 1, (0, 1, 10))], [], [], (21, [(4, -2)]))], 400)
def yD137 : List YD := yD_137 :: yD136
theorem yk_137 : ychk yKD (yct yCT0 yD136) xMT xFT yEX xm107 yD_137.2.1 yD_137.2.2.1 400 = true := by decide +kernel
-- IceBoats$RuleReader.numberIn
def yD_138 : YD := (107, ([(1, 3, 0), (0, 1, 9), (0, 1, 12)], [], true, [(some (.inl (0, -2147483648, 2147483647)), [])]), [(5, [(0, 1, (1, 3, 0)), (1, 1, (0, 1, 9)), (2, 1, (0, 1, 12)), (3, 1, (0, -2147483648, 2147483647)), (4, 1, (0, 1, 12))], [], [], (25, [(4, -2)]))], 400)
def yD138 : List YD := yD_138 :: yD137
theorem yk_138 : ychk yKD (yct yCT0 yD137) xMT xFT yEX xm107 yD_138.2.1 yD_138.2.2.1 400 = true := by decide +kernel
-- IceBoats$RuleReader.endOfDigits
def yD_139 : YD := (106, ([(1, 3, 0), (0, 1, 13)], [(0, 1)], true, [(some (.inr (3, [(1, 1)])), [(-5, [(2, 1)]), (-4, [(1, -1), (2, 1)]), (-3, [(1, -1), (2, 1)]), (-2, [(1, -1), (2, 1)]), (-1, [(1, -1), (2, 1)])]), (some (.inr (3, [(1, 1)])), [(-4, [(2, 1)]), (-3, [(1, -1), (2, 1)]), (-2, [(1, -1), (2, 1)]), (-1, [(1, -1), (2, 1)]), (3, [(1, 1), (2, -1)]), (16, [(2, -1)])]), (some (.inr (2, [(1, 1)])), [(-4, [(2, 1)]), (-3, [(1, -1), (2, 1)]), (-2, [(1, -1), (2, 1)]), (-1, [(1, -1), (2, 1)])]), (some (.inr (2, [(1, 1)])), [(-3, [(2, 1)]), (-2, [(1, -1), (2, 1)]), (-1, [(1, -1), (2, 1)]), (2, [(1, 1), (2, -1)]), (15, [(2, -1)])]), (some (.inr (1, [(1, 1)])), [(-3, [(2, 1)]), (-2, [(1, -1), (2, 1)]), (-1, [(1, -1), (2, 1)])]), (some (.inr (1, [(1, 1)])), [(-2, [(2, 1)]), (-1, [(1, -1), (2, 1)]), (1, [(1, 1), (2, -1)]), (14, [(2, -1)])]), (some (.inr (0, [(1, 1)])), [(-2, [(2, 1)]), (-1, [(1, -1), (2, 1)])]), (some (.inr (0, [(1, 1)])), [(0, [(1, 1), (2, -1)]), (13, [(2, -1)])])]), [], 400)
def yD139 : List YD := yD_139 :: yD138
theorem yk_139 : ychk yKD (yct yCT0 yD138) xMT xFT yEX xm106 yD_139.2.1 yD_139.2.2.1 400 = true := by decide +kernel
-- IceBoats$RuleReader.numberIn
def yD_140 : YD := (107, ([(1, 3, 0), (0, 1, 13), (0, 1, 14)], [], true, [(some (.inl (0, -2147483648, 2147483647)), [])]), [(5, [(0, 1, (1, 3, 0)), (1, 1, (0, 1, 13)), (2, 1, (0, 1, 14)), (3, 1, (0, -2147483648, 2147483647)), (4, 1, (0, 1, 14))], [], [], (29, [(4, -2)]))], 400)
def yD140 : List YD := yD_140 :: yD139
theorem yk_140 : ychk yKD (yct yCT0 yD139) xMT xFT yEX xm107 yD_140.2.1 yD_140.2.2.1 400 = true := by decide +kernel
-- IceBoats$RuleReader.numberIn
def yD_141 : YD := (107, ([(1, 3, 0), (0, 1, 13), (0, 1, 15)], [], true, [(some (.inl (0, -2147483648, 2147483647)), [])]), [(5, [(0, 1, (1, 3, 0)), (1, 1, (0, 1, 13)), (2, 1, (0, 1, 15)), (3, 1, (0, -2147483648, 2147483647)), (4, 1, (0, 1, 15))], [], [], (31, [(4, -2)]))], 400)
def yD141 : List YD := yD_141 :: yD140
theorem yk_141 : ychk yKD (yct yCT0 yD140) xMT xFT yEX xm107 yD_141.2.1 yD_141.2.2.1 400 = true := by decide +kernel
-- IceBoats$RuleReader.numberIn
def yD_142 : YD := (107, ([(1, 3, 0), (0, 1, 13), (0, 1, 16)], [], true, [(some (.inl (0, -2147483648, 2147483647)), [])]), [(5, [(0, 1, (1, 3, 0)), (1, 1, (0, 1, 13)), (2, 1, (0, 1, 16)), (3, 1, (0, -2147483648, 2147483647)), (4, 1, (0, 1, 16))], [], [], (33, [(4, -2)]))], 400)
def yD142 : List YD := yD_142 :: yD141
theorem yk_142 : ychk yKD (yct yCT0 yD141) xMT xFT yEX xm107 yD_142.2.1 yD_142.2.2.1 400 = true := by decide +kernel
-- IceBoats$RuleReader.endOfDigits
def yD_143 : YD := (106, ([(1, 3, 0), (0, 1, 20)], [(0, 1)], true, [(some (.inr (3, [(1, 1)])), [(-5, [(2, 1)]), (-4, [(1, -1), (2, 1)]), (-3, [(1, -1), (2, 1)]), (-2, [(1, -1), (2, 1)]), (-1, [(1, -1), (2, 1)])]), (some (.inr (3, [(1, 1)])), [(-4, [(2, 1)]), (-3, [(1, -1), (2, 1)]), (-2, [(1, -1), (2, 1)]), (-1, [(1, -1), (2, 1)]), (3, [(1, 1), (2, -1)]), (23, [(2, -1)])]), (some (.inr (2, [(1, 1)])), [(-4, [(2, 1)]), (-3, [(1, -1), (2, 1)]), (-2, [(1, -1), (2, 1)]), (-1, [(1, -1), (2, 1)])]), (some (.inr (2, [(1, 1)])), [(-3, [(2, 1)]), (-2, [(1, -1), (2, 1)]), (-1, [(1, -1), (2, 1)]), (2, [(1, 1), (2, -1)]), (22, [(2, -1)])]), (some (.inr (1, [(1, 1)])), [(-3, [(2, 1)]), (-2, [(1, -1), (2, 1)]), (-1, [(1, -1), (2, 1)])]), (some (.inr (1, [(1, 1)])), [(-2, [(2, 1)]), (-1, [(1, -1), (2, 1)]), (1, [(1, 1), (2, -1)]), (21, [(2, -1)])]), (some (.inr (0, [(1, 1)])), [(-2, [(2, 1)]), (-1, [(1, -1), (2, 1)])]), (some (.inr (0, [(1, 1)])), [(0, [(1, 1), (2, -1)]), (20, [(2, -1)])])]), [], 400)
def yD143 : List YD := yD_143 :: yD142
theorem yk_143 : ychk yKD (yct yCT0 yD142) xMT xFT yEX xm106 yD_143.2.1 yD_143.2.2.1 400 = true := by decide +kernel
-- IceBoats$RuleReader.numberIn
def yD_144 : YD := (107, ([(1, 3, 0), (0, 1, 20), (0, 1, 20)], [], true, [(some (.inl (0, -2147483648, 2147483647)), [])]), [(5, [(0, 1, (1, 3, 0)), (1, 1, (0, 1, 20)), (2, 1, (0, 1, 20)), (3, 1, (0, -2147483648, 2147483647)), (4, 1, (0, 1, 20))], [], [], (41, [(4, -2)]))], 400)
def yD144 : List YD := yD_144 :: yD143
theorem yk_144 : ychk yKD (yct yCT0 yD143) xMT xFT yEX xm107 yD_144.2.1 yD_144.2.2.1 400 = true := by decide +kernel
-- IceBoats$RuleReader.endOfDigits
def yD_145 : YD := (106, ([(1, 3, 0), (0, 1, 21)], [(0, 1)], true, [(some (.inr (3, [(1, 1)])), [(-5, [(2, 1)]), (-4, [(1, -1), (2, 1)]), (-3, [(1, -1), (2, 1)]), (-2, [(1, -1), (2, 1)]), (-1, [(1, -1), (2, 1)])]), (some (.inr (3, [(1, 1)])), [(-4, [(2, 1)]), (-3, [(1, -1), (2, 1)]), (-2, [(1, -1), (2, 1)]), (-1, [(1, -1), (2, 1)]), (3, [(1, 1), (2, -1)]), (24, [(2, -1)])]), (some (.inr (2, [(1, 1)])), [(-4, [(2, 1)]), (-3, [(1, -1), (2, 1)]), (-2, [(1, -1), (2, 1)]), (-1, [(1, -1), (2, 1)])]), (some (.inr (2, [(1, 1)])), [(-3, [(2, 1)]), (-2, [(1, -1), (2, 1)]), (-1, [(1, -1), (2, 1)]), (2, [(1, 1), (2, -1)]), (23, [(2, -1)])]), (some (.inr (1, [(1, 1)])), [(-3, [(2, 1)]), (-2, [(1, -1), (2, 1)]), (-1, [(1, -1), (2, 1)])]), (some (.inr (1, [(1, 1)])), [(-2, [(2, 1)]), (-1, [(1, -1), (2, 1)]), (1, [(1, 1), (2, -1)]), (22, [(2, -1)])]), (some (.inr (0, [(1, 1)])), [(-2, [(2, 1)]), (-1, [(1, -1), (2, 1)])]), (some (.inr (0, [(1, 1)])), [(0, [(1, 1), (2, -1)]), (21, [(2, -1)])])]), [], 400)
def yD145 : List YD := yD_145 :: yD144
theorem yk_145 : ychk yKD (yct yCT0 yD144) xMT xFT yEX xm106 yD_145.2.1 yD_145.2.2.1 400 = true := by decide +kernel
-- IceBoats$RuleReader.numberIn
def yD_146 : YD := (107, ([(1, 3, 0), (0, 1, 21), (0, 1, 24)], [], true, [(some (.inl (0, -2147483648, 2147483647)), [])]), [(5, [(0, 1, (1, 3, 0)), (1, 1, (0, 1, 21)), (2, 1, (0, 1, 24)), (3, 1, (0, -2147483648, 2147483647)), (4, 1, (0, 1, 24))], [], [], (49, [(4, -2)]))], 400)
def yD146 : List YD := yD_146 :: yD145
theorem yk_146 : ychk yKD (yct yCT0 yD145) xMT xFT yEX xm107 yD_146.2.1 yD_146.2.2.1 400 = true := by decide +kernel
-- IceBoats$RuleReader.endOfDigits
def yD_147 : YD := (106, ([(1, 3, 0), (0, 1, 36)], [(0, 1)], true, [(some (.inr (3, [(1, 1)])), [(-5, [(2, 1)]), (-4, [(1, -1), (2, 1)]), (-3, [(1, -1), (2, 1)]), (-2, [(1, -1), (2, 1)]), (-1, [(1, -1), (2, 1)])]), (some (.inr (3, [(1, 1)])), [(-4, [(2, 1)]), (-3, [(1, -1), (2, 1)]), (-2, [(1, -1), (2, 1)]), (-1, [(1, -1), (2, 1)]), (3, [(1, 1), (2, -1)]), (39, [(2, -1)])]), (some (.inr (2, [(1, 1)])), [(-4, [(2, 1)]), (-3, [(1, -1), (2, 1)]), (-2, [(1, -1), (2, 1)]), (-1, [(1, -1), (2, 1)])]), (some (.inr (2, [(1, 1)])), [(-3, [(2, 1)]), (-2, [(1, -1), (2, 1)]), (-1, [(1, -1), (2, 1)]), (2, [(1, 1), (2, -1)]), (38, [(2, -1)])]), (some (.inr (1, [(1, 1)])), [(-3, [(2, 1)]), (-2, [(1, -1), (2, 1)]), (-1, [(1, -1), (2, 1)])]), (some (.inr (1, [(1, 1)])), [(-2, [(2, 1)]), (-1, [(1, -1), (2, 1)]), (1, [(1, 1), (2, -1)]), (37, [(2, -1)])]), (some (.inr (0, [(1, 1)])), [(-2, [(2, 1)]), (-1, [(1, -1), (2, 1)])]), (some (.inr (0, [(1, 1)])), [(0, [(1, 1), (2, -1)]), (36, [(2, -1)])])]), [], 400)
def yD147 : List YD := yD_147 :: yD146
theorem yk_147 : ychk yKD (yct yCT0 yD146) xMT xFT yEX xm106 yD_147.2.1 yD_147.2.2.1 400 = true := by decide +kernel
-- IceBoats$RuleReader.numberIn
def yD_148 : YD := (107, ([(1, 3, 0), (0, 1, 36), (0, 1, 36)], [], true, [(some (.inl (0, -2147483648, 2147483647)), [])]), [(5, [(0, 1, (1, 3, 0)), (1, 1, (0, 1, 36)), (2, 1, (0, 1, 36)), (3, 1, (0, -2147483648, 2147483647)), (4, 1, (0, 1, 36))], [], [], (73, [(4, -2)]))], 400)
def yD148 : List YD := yD_148 :: yD147
theorem yk_148 : ychk yKD (yct yCT0 yD147) xMT xFT yEX xm107 yD_148.2.1 yD_148.2.2.1 400 = true := by decide +kernel
-- IceBoats$RuleReader.endOfDigits
def yD_149 : YD := (106, ([(1, 3, 0), (0, 1, 39)], [(0, 1)], true, [(some (.inr (3, [(1, 1)])), [(-5, [(2, 1)]), (-4, [(1, -1), (2, 1)]), (-3, [(1, -1), (2, 1)]), (-2, [(1, -1), (2, 1)]), (-1, [(1, -1), (2, 1)]), (36, [(1, -1)])]), (some (.inr (3, [(1, 1)])), [(-4, [(2, 1)]), (-3, [(1, -1), (2, 1)]), (-2, [(1, -1), (2, 1)]), (-1, [(1, -1), (2, 1)]), (3, [(1, 1), (2, -1)]), (37, [(1, -1)])]), (some (.inr (2, [(1, 1)])), [(-4, [(2, 1)]), (-3, [(1, -1), (2, 1)]), (-2, [(1, -1), (2, 1)]), (-1, [(1, -1), (2, 1)]), (37, [(1, -1)])]), (some (.inr (2, [(1, 1)])), [(-3, [(2, 1)]), (-2, [(1, -1), (2, 1)]), (-1, [(1, -1), (2, 1)]), (2, [(1, 1), (2, -1)]), (38, [(1, -1)])]), (some (.inr (1, [(1, 1)])), [(-3, [(2, 1)]), (-2, [(1, -1), (2, 1)]), (-1, [(1, -1), (2, 1)]), (38, [(1, -1)])]), (some (.inr (1, [(1, 1)])), [(-2, [(2, 1)]), (-1, [(1, -1), (2, 1)]), (1, [(1, 1), (2, -1)])]), (some (.inr (0, [(1, 1)])), [(-2, [(2, 1)]), (-1, [(1, -1), (2, 1)])]), (some (.inr (0, [(1, 1)])), [(0, [(1, 1), (2, -1)]), (39, [(2, -1)])])]), [], 400)
def yD149 : List YD := yD_149 :: yD148
theorem yk_149 : ychk yKD (yct yCT0 yD148) xMT xFT yEX xm106 yD_149.2.1 yD_149.2.2.1 400 = true := by decide +kernel
-- IceBoats$RuleReader.numberIn
def yD_150 : YD := (107, ([(1, 3, 0), (0, 1, 39), (0, 1, 39)], [], true, [(some (.inl (0, -2147483648, 2147483647)), [])]), [(5, [(0, 1, (1, 3, 0)), (1, 1, (0, 1, 39)), (2, 1, (0, 1, 39)), (3, 1, (0, -2147483648, 2147483647)), (4, 1, (0, 1, 39))], [], [], (79, [(4, -2)]))], 400)
def yD150 : List YD := yD_150 :: yD149
theorem yk_150 : ychk yKD (yct yCT0 yD149) xMT xFT yEX xm107 yD_150.2.1 yD_150.2.2.1 400 = true := by decide +kernel
-- IceBoats$RuleReader.numberIn
def yD_151 : YD := (107, ([(1, 3, 0), (0, 1, 39), (0, 1, 40)], [], true, [(some (.inl (0, -2147483648, 2147483647)), [])]), [(5, [(0, 1, (1, 3, 0)), (1, 1, (0, 1, 39)), (2, 1, (0, 1, 40)), (3, 1, (0, -2147483648, 2147483647)), (4, 1, (0, 1, 40))], [], [], (81, [(4, -2)]))], 400)
def yD151 : List YD := yD_151 :: yD150
theorem yk_151 : ychk yKD (yct yCT0 yD150) xMT xFT yEX xm107 yD_151.2.1 yD_151.2.2.1 400 = true := by decide +kernel
-- IceBoats$RuleReader.endOfDigits
def yD_152 : YD := (106, ([(1, 3, 0), (0, 1, 40)], [(0, 1)], true, [(some (.inr (3, [(1, 1)])), [(-5, [(2, 1)]), (-4, [(1, -1), (2, 1)]), (-3, [(1, -1), (2, 1)]), (-2, [(1, -1), (2, 1)]), (-1, [(1, -1), (2, 1)]), (36, [(1, -1)])]), (some (.inr (3, [(1, 1)])), [(-4, [(2, 1)]), (-3, [(1, -1), (2, 1)]), (-2, [(1, -1), (2, 1)]), (-1, [(1, -1), (2, 1)]), (3, [(1, 1), (2, -1)]), (37, [(1, -1)])]), (some (.inr (2, [(1, 1)])), [(-4, [(2, 1)]), (-3, [(1, -1), (2, 1)]), (-2, [(1, -1), (2, 1)]), (-1, [(1, -1), (2, 1)]), (37, [(1, -1)])]), (some (.inr (2, [(1, 1)])), [(-3, [(2, 1)]), (-2, [(1, -1), (2, 1)]), (-1, [(1, -1), (2, 1)]), (2, [(1, 1), (2, -1)]), (38, [(1, -1)])]), (some (.inr (1, [(1, 1)])), [(-3, [(2, 1)]), (-2, [(1, -1), (2, 1)]), (-1, [(1, -1), (2, 1)]), (38, [(1, -1)])]), (some (.inr (1, [(1, 1)])), [(-2, [(2, 1)]), (-1, [(1, -1), (2, 1)]), (1, [(1, 1), (2, -1)]), (39, [(1, -1)])]), (some (.inr (0, [(1, 1)])), [(-2, [(2, 1)]), (-1, [(1, -1), (2, 1)]), (39, [(1, -1)])]), (some (.inr (0, [(1, 1)])), [(0, [(1, 1), (2, -1)])])]), [], 400)
def yD152 : List YD := yD_152 :: yD151
theorem yk_152 : ychk yKD (yct yCT0 yD151) xMT xFT yEX xm106 yD_152.2.1 yD_152.2.2.1 400 = true := by decide +kernel
-- IceBoats$RuleReader.readRules
def yD_153 : YD := (104, ([(1, 22, 0), (1, 3, 0)], [], false, [(some (.inl (0, -9, 40)), [])]), [(2, [(0, 1, (1, 22, 0)), (1, 1, (1, 3, 0)), (2, 1, (0, 0, 4))], [], [], (91, [(2, -2)])), (23, [(0, 1, (1, 22, 0)), (1, 1, (1, 3, 0)), (2, 1, (0, 0, 40))], [], [], (81, [(2, -2)]))], 400)
def yD153 : List YD := yD_153 :: yD152
theorem yk_153 : ychk yKD (yct yCT0 yD152) xMT xFT yEX xm104 yD_153.2.1 yD_153.2.2.1 400 = true := by decide +kernel
-- IceBoats.fault
def yD_154 : YD := (103, ([(1, 0, 0), (0, -2147483648, 2147483647)], [], false, [(some (.inr (-1, [])), [(-1, [(1, -1)])]), (some (.inr (-1, [])), [(-4, [(1, 1)])]), (some (.inl (0, -9, 40)), [(0, [(1, 1)]), (3, [(1, -1)])]), (some (.inr (-3, [])), [(0, [(1, 1)]), (3, [(1, -1)])])]), [], 400)
def yD154 : List YD := yD_154 :: yD153
theorem yk_154 : ychk yKD (yct yCT0 yD153) xMT xFT yEX xm103 yD_154.2.1 yD_154.2.2.1 400 = true := by decide +kernel
-- IceBoats.rules
def yD_155 : YD := (108, ([(1, 0, 0), (0, -2147483648, 2147483647), (0, -2147483648, 2147483647)], [], false, [(some (.inl (0, -4, 4)), [])]), [], 400)
def yD155 : List YD := yD_155 :: yD154
theorem yk_155 : ychk yKD (yct yCT0 yD154) xMT xFT yEX xm108 yD_155.2.1 yD_155.2.2.1 400 = true := by decide +kernel
-- IceBoats.rule
def yD_156 : YD := (109, ([(1, 0, 0), (0, -2147483648, 2147483647), (0, -2147483648, 2147483647)], [], true, [(some (.inr (-1, [])), [(-4, [(2, 1)]), (0, [(1, 1)]), (5, [(1, -1)])]), (some (.inl (0, -2147483648, 2147483647)), [(0, [(1, 1)]), (0, [(2, 1)]), (3, [(2, -1)]), (5, [(1, -1)])]), (some (.inr (-1, [])), [(-1, [(2, -1)]), (0, [(1, 1)]), (5, [(1, -1)])]), (some (.inr (-1, [])), [(-6, [(1, 1)])]), (some (.inr (-1, [])), [(-1, [(1, -1)])])]), [], 400)
def yD156 : List YD := yD_156 :: yD155
theorem yk_156 : ychk yKD (yct yCT0 yD155) xMT xFT yEX xm109 yD_156.2.1 yD_156.2.2.1 400 = true := by decide +kernel
-- IceBoats.isDueNow
def yD_157 : YD := (111, ([(1, 0, 0), (0, -2147483648, 2147483647)], [(0, 12)], true, [(some (.inr (1, [])), [(-1, [(1, 1)])]), (some (.inr (0, [])), [(-1, [(1, 1)])]), (some (.inr (0, [])), [(0, [(1, -1)])])]), [], 400)
def yD157 : List YD := yD_157 :: yD156
theorem yk_157 : ychk yKD (yct yCT0 yD156) xMT xFT yEX xm111 yD_157.2.1 yD_157.2.2.1 400 = true := by decide +kernel
-- IceBoats.asks
def yD_158 : YD := (110, ([(1, 0, 0), (0, -2147483648, 2147483647)], [], true, [(some (.inl (0, -4, 14)), [])]), [], 400)
def yD158 : List YD := yD_158 :: yD157
theorem yk_158 : ychk yKD (yct yCT0 yD157) xMT xFT yEX xm110 yD_158.2.1 yD_158.2.2.1 400 = true := by decide +kernel
-- IceBoats.isMap
def yD_159 : YD := (113, ([(1, 3, 0)], [], true, [(some (.inr (0, [])), []), (some (.inr (1, [])), [])]), [(2, [(0, 1, (1, 3, 0)), (1, 1, (0, 0, 40))], [], [], (81, [(1, -2)]))], 400)
def yD159 : List YD := yD_159 :: yD158
theorem yk_159 : ychk yKD (yct yCT0 yD158) xMT xFT yEX xm113 yD_159.2.1 yD_159.2.2.1 400 = true := by decide +kernel
-- IceBoats.alikePlaces
def yD_160 : YD := (114, ([(1, 3, 0), (1, 3, 0), (0, -2147483648, 2147483647), (0, -2147483648, 2147483647)], [], true, [(some (.inl (0, -2147483648, 2147483647)), [])]), [(6, [(0, 1, (1, 3, 0)), (1, 1, (1, 3, 0)), (2, 1, (0, -2147483648, 2147483647)), (3, 1, (0, -2147483648, 2147483647)), (4, 1, (0, -2147483648, 2147483647)), (5, 1, (0, 0, 16))], [], [], (33, [(5, -2)]))], 400)
def yD160 : List YD := yD_160 :: yD159
theorem yk_160 : ychk yKD (yct yCT0 yD159) xMT xFT yEX xm114 yD_160.2.1 yD_160.2.2.1 400 = true := by decide +kernel
-- IceBoats.shifts
def yD_161 : YD := (112, ([(1, 0, 0), (0, -2147483648, 2147483647), (0, -2147483648, 2147483647), (0, -2147483648, 2147483647)], [], false, [(some (.inl (0, -2147483648, 2147483647)), [])]), [(117, [(0, 1, (1, 0, 0)), (1, 1, (0, 0, 5)), (2, 1, (0, 0, 5)), (3, 1, (0, 1, 16)), (4, 1, (1, 3, 0)), (5, 1, (1, 3, 0)), (6, 1, (0, -2147483648, 2147483647)), (7, 1, (0, 0, 100)), (8, 1, (0, -3, 4))], [(4, 1, (0, 16, 16)), (5, 1, (0, 16, 16))], [(-1, [(8, -1), (9, 1)]), (-1, [(8, -1), (10, 1)]), (-1, [(1, -1), (9, 1)]), (-1, [(2, -1), (9, 1)]), (-1, [(1, -1), (10, 1)]), (-1, [(2, -1), (10, 1)])], (89, [(8, -18)])), (127, [(0, 1, (1, 0, 0)), (1, 1, (0, 0, 5)), (2, 1, (0, 0, 5)), (3, 1, (0, 1, 16)), (4, 1, (1, 3, 0)), (5, 1, (1, 3, 0)), (6, 1, (0, -2147483648, 2147483647)), (7, 1, (0, 0, 100)), (8, 1, (0, -3, 3)), (9, 1, (0, -3, 4))], [(4, 1, (0, 16, 16)), (5, 1, (0, 16, 16))], [(-1, [(9, -1), (10, 1)]), (-1, [(8, -1), (10, 1)]), (-1, [(8, -1), (11, 1)]), (-1, [(1, -1), (10, 1)]), (-1, [(2, -1), (10, 1)]), (-1, [(9, -1), (11, 1)]), (-1, [(1, -1), (11, 1)]), (-1, [(2, -1), (11, 1)])], (81, [(8, -18), (9, -2)]))], 400)
def yD161 : List YD := yD_161 :: yD160
theorem yk_161 : ychk yKD (yct yCT0 yD160) xMT xFT yEX xm112 yD_161.2.1 yD_161.2.2.1 400 = true := by decide +kernel
-- IceBoats.mapped
def yD_162 : YD := (115, ([(1, 0, 0), (0, -2147483648, 2147483647)], [], false, [(some (.inl (0, -2147483648, 2147483647)), [])]), [(17, [(0, 1, (1, 0, 0)), (1, 1, (0, 0, 63)), (2, 1, (2, 0, 0)), (4, 1, (0, 0, 40))], [], [], (81, [(3, -2)]))], 400)
def yD162 : List YD := yD_162 :: yD161
theorem yk_162 : ychk yKD (yct yCT0 yD161) xMT xFT yEX xm115 yD_162.2.1 yD_162.2.2.1 400 = true := by decide +kernel
-- IceBoats.faultOfWays
def yD_163 : YD := (119, ([(1, 3, 0), (0, -2147483648, 2147483647)], [(0, 1)], true, [(some (.inr (5, [])), [(-1, [(1, -1), (2, 1)]), (-1, [(2, 1)]), (39, [(1, -1)])]), (some (.inr (3, [])), [(-1, [(1, 1)]), (-1, [(2, 1)]), (0, [(1, 1), (2, -1)])]), (some (.inr (0, [])), [(-1, [(1, 1)]), (-1, [(2, 1)]), (0, [(1, 1), (2, -1)])]), (some (.inr (5, [])), [(0, [(2, -1)]), (0, [(2, 1)])]), (some (.inr (1, [])), [(-1, [(2, -1)])])]), [], 400)
def yD163 : List YD := yD_163 :: yD162
theorem yk_163 : ychk yKD (yct yCT0 yD162) xMT xFT yEX xm119 yD_163.2.1 yD_163.2.2.1 400 = true := by decide +kernel
-- IceBoats$Drift.clearNext
def yD_164 : YD := (130, ([(1, 27, 0)], [], false, [(none, [])]), [(2, [(0, 1, (1, 27, 0)), (1, 1, (0, 0, 64))], [], [], (129, [(1, -2)]))], 400)
def yD164 : List YD := yD_164 :: yD163
theorem yk_164 : ychk yKD (yct yCT0 yD163) xMT xFT yEX xm130 yD_164.2.1 yD_164.2.2.1 400 = true := by decide +kernel
-- IceBoats$Drift.swapNext
def yD_165 : YD := (131, ([(1, 27, 0)], [], false, [(none, [])]), [], 400)
def yD165 : List YD := yD_165 :: yD164
theorem yk_165 : ychk yKD (yct yCT0 yD164) xMT xFT yEX xm131 yD_165.2.1 yD_165.2.2.1 400 = true := by decide +kernel
-- IceBoats$Drift.startIn
def yD_166 : YD := (129, ([(1, 27, 0), (0, 0, 63)], [], false, [(none, [])]), [], 400)
def yD166 : List YD := yD_166 :: yD165
theorem yk_166 : ychk yKD (yct yCT0 yD165) xMT xFT yEX xm129 yD_166.2.1 yD_166.2.2.1 400 = true := by decide +kernel
-- IceBoats$Drift.lead
def yD_167 : YD := (133, ([(1, 27, 0), (0, 0, 9), (0, -2147483648, 2147483647), (0, -2147483648, 2147483647)], [], false, [(none, [])]), [], 400)
def yD167 : List YD := yD_167 :: yD166
theorem yk_167 : ychk yKD (yct yCT0 yD166) xMT xFT yEX xm133 yD_167.2.1 yD_167.2.2.1 400 = true := by decide +kernel
-- IceBoats$Drift.lead
def yD_168 : YD := (133, ([(1, 27, 0), (0, 0, 63), (0, -2147483648, 2147483647), (0, -2147483648, 2147483647)], [], false, [(none, [])]), [], 400)
def yD168 : List YD := yD_168 :: yD167
theorem yk_168 : ychk yKD (yct yCT0 yD167) xMT xFT yEX xm133 yD_168.2.1 yD_168.2.2.1 400 = true := by decide +kernel
-- IceBoats$Drift.follow
def yD_169 : YD := (132, ([(1, 27, 0), (1, 5, 0), (0, 0, 4), (0, 1, 3)], [], false, [(none, [])]), [(7, [(0, 1, (1, 27, 0)), (1, 1, (1, 5, 0)), (2, 1, (0, 0, 4)), (3, 1, (0, 1, 3)), (4, 1, (0, 0, 64))], [], [], (129, [(4, -2)]))], 400)
def yD169 : List YD := yD_169 :: yD168
theorem yk_169 : ychk yKD (yct yCT0 yD168) xMT xFT yEX xm132 yD_169.2.1 yD_169.2.2.1 400 = true := by decide +kernel
-- IceBoats.tellShare
def yD_170 : YD := (134, ([(1, 0, 0), (2, 0, 0), (2, 0, 0)], [], false, [(none, [])]), [(9, [(0, 1, (1, 0, 0)), (1, 1, (2, 0, 0)), (3, 1, (2, 0, 0)), (5, 1, (2, 0, 0)), (7, 1, (2, 0, 0)), (9, 1, (0, 0, 16))], [], [], (33, [(5, -2)]))], 400)
def yD170 : List YD := yD_170 :: yD169
theorem yk_170 : ychk yKD (yct yCT0 yD169) xMT xFT yEX xm134 yD_170.2.1 yD_170.2.2.1 400 = true := by decide +kernel
-- IceBoats.odds
def yD_171 : YD := (128, ([(1, 0, 0), (0, -2147483648, 2147483647), (0, -2147483648, 2147483647)], [], false, [(some (.inr (-3, [])), []), (some (.inr (-1, [])), []), (some (.inr (1, [])), [])]), [(54, [(0, 1, (1, 0, 0)), (1, 1, (0, 0, 63)), (2, 1, (0, 0, 5)), (3, 1, (1, 3, 0)), (4, 1, (0, 0, 0)), (5, 1, (2, 0, 0)), (7, 1, (0, 0, 40))], [], [], (81, [(6, -2)]))], 400)
def yD171 : List YD := yD_171 :: yD170
theorem yk_171 : ychk yKD (yct yCT0 yD170) xMT xFT yEX xm128 yD_171.2.1 yD_171.2.2.1 400 = true := by decide +kernel
-- IceBoats.areSights
def yD_172 : YD := (137, ([(1, 3, 0), (0, -2147483648, 2147483647)], [], true, [(some (.inr (0, [])), []), (some (.inr (1, [])), [])]), [(2, [(0, 1, (1, 3, 0)), (1, 1, (0, -2147483648, 2147483647)), (2, 1, (0, 0, 40))], [], [], (81, [(2, -2)]))], 400)
def yD172 : List YD := yD_172 :: yD171
theorem yk_172 : ychk yKD (yct yCT0 yD171) xMT xFT yEX xm137 yD_172.2.1 yD_172.2.2.1 400 = true := by decide +kernel
-- IceBoats.faultOfCourses
def yD_173 : YD := (136, ([(1, 3, 0), (1, 3, 0)], [(0, 1), (1, 1)], true, [(some (.inr (5, [])), [(-1, [(2, 1)]), (0, [(3, 1)]), (10, [(2, -1)])]), (some (.inr (3, [])), [(-1, [(2, 1)]), (0, [(3, 1)]), (10, [(2, -1)])]), (some (.inr (0, [])), [(-1, [(2, 1)]), (0, [(3, 1)]), (10, [(2, -1)])]), (some (.inr (3, [])), [(-1, [(2, 1)]), (0, [(3, 1)]), (10, [(2, -1)])]), (some (.inr (5, [])), [(-11, [(2, 1)]), (0, [(3, 1)])]), (some (.inr (5, [])), [(0, [(2, -1)]), (0, [(2, 1)]), (0, [(3, 1)])]), (some (.inr (1, [])), [(-1, [(3, -1)]), (0, [(2, 1)])]), (some (.inr (1, [])), [(-1, [(2, -1)])])]), [], 400)
def yD173 : List YD := yD_173 :: yD172
theorem yk_173 : ychk yKD (yct yCT0 yD172) xMT xFT yEX xm136 yD_173.2.1 yD_173.2.2.1 400 = true := by decide +kernel
-- IceBoats$Drift.keepOnly
def yD_174 : YD := (139, ([(1, 27, 0), (0, -2147483648, 2147483647)], [], false, [(none, [])]), [(2, [(0, 1, (1, 27, 0)), (1, 1, (0, -2147483648, 2147483647)), (2, 1, (0, 0, 64))], [], [], (129, [(2, -2)]))], 400)
def yD174 : List YD := yD_174 :: yD173
theorem yk_174 : ychk yKD (yct yCT0 yD173) xMT xFT yEX xm139 yD_174.2.1 yD_174.2.2.1 400 = true := by decide +kernel
-- IceBoats.keepWhatWasSeen
def yD_175 : YD := (138, ([(1, 0, 0), (1, 3, 0), (0, -2147483648, 2147483647)], [], false, [(none, [])]), [(2, [(0, 1, (1, 0, 0)), (1, 1, (1, 3, 0)), (2, 1, (0, -2147483648, 2147483647)), (3, 1, (0, 0, 40))], [], [], (81, [(3, -2)]))], 400)
def yD175 : List YD := yD_175 :: yD174
theorem yk_175 : ychk yKD (yct yCT0 yD174) xMT xFT yEX xm138 yD_175.2.1 yD_175.2.2.1 400 = true := by decide +kernel
-- IceBoats$Drift.leastOddRow
def yD_176 : YD := (140, ([(1, 27, 0)], [], true, [(some (.inl (0, -2147483648, 2147483647)), [])]), [(6, [(0, 1, (1, 27, 0)), (1, 1, (0, -2147483648, 2147483647)), (2, 1, (0, 0, 64))], [], [], (129, [(2, -2)]))], 400)
def yD176 : List YD := yD_176 :: yD175
theorem yk_176 : ychk yKD (yct yCT0 yD175) xMT xFT yEX xm140 yD_176.2.1 yD_176.2.2.1 400 = true := by decide +kernel
-- IceBoats$Drift.sumOfWeights
def yD_177 : YD := (141, ([(1, 27, 0)], [], true, [(some (.inl (0, -2147483648, 2147483647)), [])]), [(4, [(0, 1, (1, 27, 0)), (1, 1, (0, -2147483648, 2147483647)), (2, 1, (0, 0, 64))], [], [], (129, [(2, -2)]))], 400)
def yD177 : List YD := yD_177 :: yD176
theorem yk_177 : ychk yKD (yct yCT0 yD176) xMT xFT yEX xm141 yD_177.2.1 yD_177.2.2.1 400 = true := by decide +kernel
-- IceBoats.courses
def yD_178 : YD := (135, ([(1, 0, 0), (0, -2147483648, 2147483647), (0, -2147483648, 2147483647), (0, -2147483648, 2147483647)], [], false, [(some (.inl (0, -2147483648, 2147483647)), [])]), [(66, [(0, 1, (1, 0, 0)), (1, 1, (0, 0, 63)), (2, 1, (0, 0, 5)), (3, 1, (0, 0, 5)), (4, 1, (1, 3, 0)), (5, 1, (1, 3, 0)), (6, 1, (0, 0, 0)), (7, 1, (0, 0, 40))], [], [], (81, [(7, -2)]))], 400)
def yD178 : List YD := yD_178 :: yD177
theorem yk_178 : ychk yKD (yct yCT0 yD177) xMT xFT yEX xm135 yD_178.2.1 yD_178.2.2.1 400 = true := by decide +kernel
-- IceBoats.asked
def yD_179 : YD := (142, ([(1, 0, 0)], [(0, 15)], true, [(some (.inr (0, [(1, 1)])), [])]), [], 400)
def yD179 : List YD := yD_179 :: yD178
theorem yk_179 : ychk yKD (yct yCT0 yD178) xMT xFT yEX xm142 yD_179.2.1 yD_179.2.2.1 400 = true := by decide +kernel
-- IceBoats.set
def yD_180 : YD := (143, ([(1, 0, 0)], [], true, [(some (.inl (2, 0, 0)), [])]), [], 400)
def yD180 : List YD := yD_180 :: yD179
theorem yk_180 : ychk yKD (yct yCT0 yD179) xMT xFT yEX xm143 yD_180.2.1 yD_180.2.2.1 400 = true := by decide +kernel
-- IceBoats.upper
def yD_181 : YD := (144, ([(1, 0, 0)], [], true, [(some (.inl (2, 0, 0)), [])]), [], 400)
def yD181 : List YD := yD_181 :: yD180
theorem yk_181 : ychk yKD (yct yCT0 yD180) xMT xFT yEX xm144 yD_181.2.1 yD_181.2.2.1 400 = true := by decide +kernel
-- IceBoats.lower
def yD_182 : YD := (145, ([(1, 0, 0)], [], true, [(some (.inl (2, 0, 0)), [])]), [], 400)
def yD182 : List YD := yD_182 :: yD181
theorem yk_182 : ychk yKD (yct yCT0 yD181) xMT xFT yEX xm145 yD_182.2.1 yD_182.2.2.1 400 = true := by decide +kernel
-- IceBoats.rowsThere
def yD_183 : YD := (149, ([(1, 2, 0)], [], true, [(some (.inl (0, -2147483648, 2147483647)), [])]), [(4, [(0, 1, (1, 2, 0)), (1, 1, (0, -2147483648, 2147483647)), (2, 1, (0, 0, 4))], [], [], (9, [(2, -2)]))], 400)
def yD183 : List YD := yD_183 :: yD182
theorem yk_183 : ychk yKD (yct yCT0 yD182) xMT xFT yEX xm149 yD_183.2.1 yD_183.2.2.1 400 = true := by decide +kernel
-- IceBoats.rowsThere
def yD_184 : YD := (149, ([(1, 1, 0)], [], true, [(some (.inl (0, -2147483648, 2147483647)), [])]), [(4, [(0, 1, (1, 1, 0)), (1, 1, (0, -2147483648, 2147483647)), (2, 1, (0, 0, 6))], [], [], (13, [(2, -2)]))], 400)
def yD184 : List YD := yD_184 :: yD183
theorem yk_184 : ychk yKD (yct yCT0 yD183) xMT xFT yEX xm149 yD_184.2.1 yD_184.2.2.1 400 = true := by decide +kernel
-- IceBoats.boatsOfKind
def yD_185 : YD := (148, ([(1, 0, 0), (0, -2147483648, 2147483647)], [], true, [(some (.inl (0, -2147483648, 2147483647)), [])]), [(4, [(0, 1, (1, 0, 0)), (1, 1, (0, -2147483648, 2147483647)), (2, 1, (0, -2147483648, 2147483647)), (3, 1, (0, 0, 6))], [], [], (13, [(3, -2)]))], 400)
def yD185 : List YD := yD_185 :: yD184
theorem yk_185 : ychk yKD (yct yCT0 yD184) xMT xFT yEX xm148 yD_185.2.1 yD_185.2.2.1 400 = true := by decide +kernel
-- IceBoats.ableBoats
def yD_186 : YD := (147, ([(1, 0, 0)], [], true, [(some (.inl (0, -2147483648, 2147483647)), [])]), [(4, [(0, 1, (1, 0, 0)), (1, 1, (0, -2147483648, 2147483647)), (2, 1, (0, 0, 6))], [], [], (13, [(2, -2)]))], 400)
def yD186 : List YD := yD_186 :: yD185
theorem yk_186 : ychk yKD (yct yCT0 yD185) xMT xFT yEX xm147 yD_186.2.1 yD_186.2.2.1 400 = true := by decide +kernel
-- IceBoats.count
def yD_187 : YD := (146, ([(1, 0, 0), (0, -2147483648, 2147483647)], [(0, 11), (0, 10), (0, 12)], true, [(some (.inr (-1, [])), [(-8, [(1, 1)])]), (some (.inr (-1, [])), [(-1, [(1, -1)])]), (some (.inl (0, -2147483648, 2147483647)), [(-7, [(1, 1)]), (7, [(1, -1)])]), (some (.inl (0, -2147483648, 2147483647)), [(-6, [(1, 1)]), (6, [(1, -1)])]), (some (.inl (0, -2147483648, 2147483647)), [(-5, [(1, 1)]), (5, [(1, -1)])]), (some (.inl (0, -2147483648, 2147483647)), [(-4, [(1, 1)]), (4, [(1, -1)])]), (some (.inr (0, [(2, 1)])), [(-3, [(1, 1)]), (3, [(1, -1)])]), (some (.inr (0, [(3, 1)])), [(-2, [(1, 1)]), (2, [(1, -1)])]), (some (.inl (0, -2147483648, 2147483647)), [(-1, [(1, 1)]), (1, [(1, -1)])]), (some (.inr (0, [(4, 1)])), [(0, [(1, -1)]), (0, [(1, 1)])])]), [], 400)
def yD187 : List YD := yD_187 :: yD186
theorem yk_187 : ychk yKD (yct yCT0 yD186) xMT xFT yEX xm146 yD_187.2.1 yD_187.2.2.1 400 = true := by decide +kernel
-- IceBoats.finding
def yD_188 : YD := (150, ([(1, 0, 0)], [(0, 14)], true, [(some (.inr (0, [(1, 1)])), [])]), [], 400)
def yD188 : List YD := yD_188 :: yD187
theorem yk_188 : ychk yKD (yct yCT0 yD187) xMT xFT yEX xm150 yD_188.2.1 yD_188.2.2.1 400 = true := by decide +kernel
-- IceBoats.findings
def yD_189 : YD := (151, ([(1, 0, 0), (0, -2147483648, 2147483647)], [], true, [(some (.inr (-1, [])), [(-6, [(1, 1)])]), (some (.inl (0, -2147483648, 2147483647)), [(-1, [(1, 1)]), (5, [(1, -1)])]), (some (.inr (-1, [])), [(0, [(1, -1)])])]), [], 400)
def yD189 : List YD := yD_189 :: yD188
theorem yk_189 : ychk yKD (yct yCT0 yD188) xMT xFT yEX xm151 yD_189.2.1 yD_189.2.2.1 400 = true := by decide +kernel
-- IceBoats.digestBoats
def yD_190 : YD := (153, ([(1, 0, 0), (2, 0, 0)], [], true, [(some (.inl (2, 0, 0)), [])]), [(15, [(0, 1, (1, 0, 0)), (1, 1, (2, 0, 0)), (3, 1, (2, 0, 0)), (5, 1, (0, 0, 5)), (6, 1, (0, 0, 6))], [], [], (179, [(3, -26), (4, -2)])), (5, [(0, 1, (1, 0, 0)), (1, 1, (2, 0, 0)), (3, 1, (2, 0, 0)), (5, 1, (0, 0, 6))], [], [], (181, [(3, -26)])), (70, [(0, 1, (1, 0, 0)), (1, 1, (2, 0, 0)), (3, 1, (2, 0, 0)), (5, 1, (0, 0, 5)), (6, 1, (0, 0, 4))], [(0, 3, (1, 13, 0))], [], (165, [(3, -26), (4, -2)]))], 400)
def yD190 : List YD := yD_190 :: yD189
theorem yk_190 : ychk yKD (yct yCT0 yD189) xMT xFT yEX xm153 yD_190.2.1 yD_190.2.2.1 400 = true := by decide +kernel
-- IceBoats.digestWords
def yD_191 : YD := (154, ([(1, 0, 0), (2, 0, 0)], [], true, [(some (.inl (2, 0, 0)), [])]), [(17, [(0, 1, (1, 0, 0)), (1, 1, (2, 0, 0)), (3, 1, (2, 0, 0)), (5, 1, (0, 0, 39)), (6, 1, (0, 0, 4))], [(0, 10, (0, 1, 40))], [(-1, [(3, -1), (5, 1)])], (1063, [(3, -26), (4, -2)])), (5, [(0, 1, (1, 0, 0)), (1, 1, (2, 0, 0)), (3, 1, (2, 0, 0)), (5, 1, (0, 0, 40))], [], [], (1065, [(3, -26)])), (52, [(0, 1, (1, 0, 0)), (1, 1, (2, 0, 0)), (3, 1, (2, 0, 0)), (5, 1, (0, 0, 39)), (6, 1, (0, 0, 6))], [(0, 10, (0, 1, 40))], [(-1, [(3, -1), (5, 1)])], (1053, [(3, -26), (4, -2)]))], 400)
def yD191 : List YD := yD_191 :: yD190
theorem yk_191 : ychk yKD (yct yCT0 yD190) xMT xFT yEX xm154 yD_191.2.1 yD_191.2.2.1 400 = true := by decide +kernel
-- IceBoats.digestLooks
def yD_192 : YD := (155, ([(1, 0, 0), (2, 0, 0)], [], true, [(some (.inl (2, 0, 0)), [])]), [(17, [(0, 1, (1, 0, 0)), (1, 1, (2, 0, 0)), (3, 1, (2, 0, 0)), (5, 1, (0, 0, 39)), (6, 1, (0, 0, 4))], [(0, 11, (0, 1, 40))], [(-1, [(3, -1), (5, 1)])], (489, [(3, -12), (4, -2)])), (5, [(0, 1, (1, 0, 0)), (1, 1, (2, 0, 0)), (3, 1, (2, 0, 0)), (5, 1, (0, 0, 40))], [], [], (491, [(3, -12)]))], 400)
def yD192 : List YD := yD_192 :: yD191
theorem yk_192 : ychk yKD (yct yCT0 yD191) xMT xFT yEX xm155 yD_192.2.1 yD_192.2.2.1 400 = true := by decide +kernel
-- IceBoats.digestRows
def yD_193 : YD := (156, ([(2, 0, 0), (1, 1, 0)], [], true, [(some (.inl (2, 0, 0)), [])]), [(30, [(0, 1, (2, 0, 0)), (2, 1, (1, 1, 0)), (3, 1, (2, 0, 0)), (5, 1, (0, 0, 5)), (6, 1, (0, 0, 40))], [], [], (585, [(3, -84), (4, -2)])), (5, [(0, 1, (2, 0, 0)), (2, 1, (1, 1, 0)), (3, 1, (2, 0, 0)), (5, 1, (0, 0, 6))], [], [], (587, [(3, -84)]))], 400)
def yD193 : List YD := yD_193 :: yD192
theorem yk_193 : ychk yKD (yct yCT0 yD192) xMT xFT yEX xm156 yD_193.2.1 yD_193.2.2.1 400 = true := by decide +kernel
-- IceBoats.digestRows
def yD_194 : YD := (156, ([(2, 0, 0), (1, 2, 0)], [], true, [(some (.inl (2, 0, 0)), [])]), [(30, [(0, 1, (2, 0, 0)), (2, 1, (1, 2, 0)), (3, 1, (2, 0, 0)), (5, 1, (0, 0, 3)), (6, 1, (0, 0, 40))], [], [], (417, [(3, -84), (4, -2)])), (5, [(0, 1, (2, 0, 0)), (2, 1, (1, 2, 0)), (3, 1, (2, 0, 0)), (5, 1, (0, 0, 4))], [], [], (419, [(3, -84)]))], 400)
def yD194 : List YD := yD_194 :: yD193
theorem yk_194 : ychk yKD (yct yCT0 yD193) xMT xFT yEX xm156 yD_194.2.1 yD_194.2.2.1 400 = true := by decide +kernel
-- IceBoats.digest
def yD_195 : YD := (152, ([(1, 0, 0)], [], true, [(some (.inl (2, 0, 0)), [])]), [(33, [(0, 1, (1, 0, 0)), (1, 1, (2, 0, 0)), (3, 1, (0, 0, 64))], [], [], (909, [(2, -14)])), (42, [(0, 1, (1, 0, 0)), (1, 1, (2, 0, 0)), (3, 1, (0, 0, 63)), (4, 1, (0, 0, 5))], [], [], (907, [(2, -14), (3, -2)])), (6, [(0, 1, (1, 0, 0)), (1, 1, (2, 0, 0)), (3, 1, (0, 0, 8))], [], [], (927, [(2, -2)]))], 400)
def yD195 : List YD := yD_195 :: yD194
theorem yk_195 : ychk yKD (yct yCT0 yD194) xMT xFT yEX xm152 yD_195.2.1 yD_195.2.2.1 400 = true := by decide +kernel
-- IceBoatsModel.in
def yD_196 : YD := (160, ([(0, -2147483648, 2147483647), (0, -2147483648, 2147483647), (0, -2147483648, 2147483647)], [], true, [(some (.inr (1, [])), [(0, [(0, -1), (2, 1)]), (0, [(0, 1), (1, -1)])]), (some (.inr (0, [])), [(-1, [(0, 1), (2, -1)]), (0, [(0, 1), (1, -1)]), (2147483646, [(2, -1)]), (2147483647, [(0, 1)])]), (some (.inr (0, [])), [(-1, [(0, -1), (1, 1)]), (2147483646, [(0, -1)]), (2147483647, [(1, 1)])])]), [], 400)
def yD196 : List YD := yD_196 :: yD195
theorem yk_196 : ychk yKD (yct yCT0 yD195) xMT xFT yEX xm160 yD_196.2.1 yD_196.2.2.1 400 = true := by decide +kernel
-- IceBoatsModel.isRow
def yD_197 : YD := (159, ([(0, -2147483648, 2147483647)], [], true, [(some (.inr (0, [])), [(-1, [(0, -1)])]), (some (.inr (0, [])), [(-6, [(0, 1)])]), (some (.inr (1, [])), [(0, [(0, 1)]), (5, [(0, -1)])])]), [], 400)
def yD197 : List YD := yD_197 :: yD196
theorem yk_197 : ychk yKD (yct yCT0 yD196) xMT xFT yEX xm159 yD_197.2.1 yD_197.2.2.1 400 = true := by decide +kernel
-- IceBoatsModel.meets
def yD_198 : YD := (161, ([(1, 30, 0), (0, 1, 5)], [], false, [(some (.inr (-3, [])), [])]), [], 400)
def yD198 : List YD := yD_198 :: yD197
theorem yk_198 : ychk yKD (yct yCT0 yD197) xMT xFT yEX xm161 yD_198.2.1 yD_198.2.2.1 400 = true := by decide +kernel
-- IceBoatsModel.row
def yD_199 : YD := (158, ([(1, 30, 0), (0, -2147483648, 2147483647), (0, -2147483648, 2147483647)], [], false, [(some (.inl (0, -3, 40)), [])]), [(34, [(0, 1, (1, 30, 0)), (1, 1, (0, 0, 5)), (2, 1, (0, 0, 40)), (3, 1, (0, 0, 40))], [(0, 7, (1, 32, 0))], [], (81, [(3, -2)]))], 400)
def yD199 : List YD := yD_199 :: yD198
theorem yk_199 : ychk yKD (yct yCT0 yD198) xMT xFT yEX xm158 yD_199.2.1 yD_199.2.2.1 400 = true := by decide +kernel
-- IceBoatsModel.askedRow
def yD_200 : YD := (163, ([(1, 30, 0), (0, -2147483648, 2147483647)], [], false, [(some (.inr (-3, [])), [(0, [(1, 1)]), (5, [(1, -1)])]), (some (.inr (0, [])), [(0, [(1, 1)]), (5, [(1, -1)])]), (some (.inr (-1, [])), [(-6, [(1, 1)])]), (some (.inr (-1, [])), [(-1, [(1, -1)])])]), [], 400)
def yD200 : List YD := yD_200 :: yD199
theorem yk_200 : ychk yKD (yct yCT0 yD199) xMT xFT yEX xm163 yD_200.2.1 yD_200.2.2.1 400 = true := by decide +kernel
-- IceBoatsModel.rowAt
def yD_201 : YD := (164, ([(1, 30, 0), (0, 0, 5), (0, 0, 39)], [], true, [(some (.inl (0, -2147483648, 2147483647)), [])]), [], 400)
def yD201 : List YD := yD_201 :: yD200
theorem yk_201 : ychk yKD (yct yCT0 yD200) xMT xFT yEX xm164 yD_201.2.1 yD_201.2.2.1 400 = true := by decide +kernel
-- IceBoatsModel.lay
def yD_202 : YD := (162, ([(1, 30, 0), (0, -2147483648, 2147483647), (0, -2147483648, 2147483647), (0, -2147483648, 2147483647)], [], false, [(some (.inr (-1, [])), [(-1, [(1, -1)])]), (some (.inr (-1, [])), [(-6, [(1, 1)])]), (some (.inr (-3, [])), [(-1, [(2, -1)]), (0, [(1, 1)]), (5, [(1, -1)])]), (some (.inr (-3, [])), [(0, [(1, 1)]), (0, [(2, 1)]), (5, [(1, -1)])]), (some (.inr (1, [])), [(0, [(1, 1)]), (0, [(2, 1)]), (5, [(1, -1)]), (39, [(2, -1)])]), (some (.inr (-3, [])), [(0, [(1, 1)]), (5, [(1, -1)])])]), [], 400)
def yD202 : List YD := yD_202 :: yD201
theorem yk_202 : ychk yKD (yct yCT0 yD201) xMT xFT yEX xm162 yD_202.2.1 yD_202.2.2.1 400 = true := by decide +kernel
-- IceBoatsModel.tear
def yD_203 : YD := (165, ([(1, 30, 0), (0, -2147483648, 2147483647)], [], false, [(some (.inr (-1, [])), [(-1, [(1, -1)])]), (some (.inr (-1, [])), [(-6, [(1, 1)])]), (some (.inr (1, [])), [(0, [(1, 1)]), (5, [(1, -1)])]), (some (.inr (-3, [])), [(0, [(1, 1)]), (5, [(1, -1)])])]), [], 400)
def yD203 : List YD := yD_203 :: yD202
theorem yk_203 : ychk yKD (yct yCT0 yD202) xMT xFT yEX xm165 yD_203.2.1 yD_203.2.2.1 400 = true := by decide +kernel
-- IceBoatsModel.copy
def yD_204 : YD := (166, ([(1, 30, 0), (0, -2147483648, 2147483647), (0, -2147483648, 2147483647), (0, -2147483648, 2147483647), (0, -2147483648, 2147483647), (0, -2147483648, 2147483647)], [], false, [(some (.inr (-3, [])), []), (some (.inr (-1, [])), []), (some (.inr (1, [])), [])]), [(104, [(0, 1, (1, 30, 0)), (1, 1, (0, 0, 5)), (2, 1, (0, 0, 40)), (3, 1, (0, 0, 5)), (4, 1, (0, 0, 40)), (5, 1, (0, 0, 40)), (6, 1, (0, 0, 40))], [(0, 7, (1, 32, 0))], [(40, [(2, -1), (5, -1)]), (40, [(4, -1), (5, -1)])], (163, [(6, -2)])), (136, [(0, 1, (1, 30, 0)), (1, 1, (0, 0, 5)), (2, 1, (0, 0, 40)), (3, 1, (0, 0, 5)), (4, 1, (0, 0, 40)), (5, 1, (0, 0, 40)), (6, 1, (0, 0, 40))], [(0, 7, (1, 32, 0))], [(40, [(2, -1), (5, -1)]), (40, [(4, -1), (5, -1)])], (81, [(6, -2)]))], 400)
def yD204 : List YD := yD_204 :: yD203
theorem yk_204 : ychk yKD (yct yCT0 yD203) xMT xFT yEX xm166 yD_204.2.1 yD_204.2.2.1 400 = true := by decide +kernel
-- IceBoatsModel.ask
def yD_205 : YD := (168, ([(1, 30, 0), (0, -2147483648, 2147483647), (0, -2147483648, 2147483647)], [], false, [(some (.inr (0, [(2, 1)])), [])]), [], 400)
def yD205 : List YD := yD_205 :: yD204
theorem yk_205 : ychk yKD (yct yCT0 yD204) xMT xFT yEX xm168 yD_205.2.1 yD_205.2.2.1 400 = true := by decide +kernel
-- IceBoatsModel.mean
def yD_206 : YD := (167, ([(1, 30, 0), (0, -2147483648, 2147483647)], [], false, [(some (.inr (-3, [])), []), (some (.inr (-1, [])), []), (some (.inr (1, [])), [])]), [(17, [(0, 1, (1, 30, 0)), (1, 1, (0, 0, 5)), (2, 1, (0, 0, 0)), (3, 1, (2, 0, 0)), (5, 1, (0, 0, 40))], [], [], (81, [(4, -2)]))], 400)
def yD206 : List YD := yD_206 :: yD205
theorem yk_206 : ychk yKD (yct yCT0 yD205) xMT xFT yEX xm167 yD_206.2.1 yD_206.2.2.1 400 = true := by decide +kernel
-- IceBoatsModel.isText
def yD_207 : YD := (170, ([(0, -2147483648, 2147483647)], [], true, [(some (.inr (0, [])), [(-1, [(0, -1)])]), (some (.inr (0, [])), [(-4, [(0, 1)])]), (some (.inr (1, [])), [(0, [(0, 1)]), (3, [(0, -1)])])]), [], 400)
def yD207 : List YD := yD_207 :: yD206
theorem yk_207 : ychk yKD (yct yCT0 yD206) xMT xFT yEX xm170 yD_207.2.1 yD_207.2.2.1 400 = true := by decide +kernel
-- IceBoatsModel.text
def yD_208 : YD := (169, ([(1, 30, 0), (0, -2147483648, 2147483647), (0, -2147483648, 2147483647)], [], false, [(some (.inl (0, -3, 40)), [])]), [(34, [(0, 1, (1, 30, 0)), (1, 1, (0, 0, 3)), (2, 1, (0, 0, 40)), (3, 1, (0, 0, 40))], [(0, 10, (1, 35, 0))], [], (81, [(3, -2)]))], 400)
def yD208 : List YD := yD_208 :: yD207
theorem yk_208 : ychk yKD (yct yCT0 yD207) xMT xFT yEX xm169 yD_208.2.1 yD_208.2.2.1 400 = true := by decide +kernel
-- IceBoatsModel.askedText
def yD_209 : YD := (172, ([(1, 30, 0), (0, -2147483648, 2147483647)], [], false, [(some (.inr (-3, [])), [(0, [(1, 1)]), (3, [(1, -1)])]), (some (.inr (0, [])), [(0, [(1, 1)]), (3, [(1, -1)])]), (some (.inr (-1, [])), [(-4, [(1, 1)])]), (some (.inr (-1, [])), [(-1, [(1, -1)])])]), [], 400)
def yD209 : List YD := yD_209 :: yD208
theorem yk_209 : ychk yKD (yct yCT0 yD208) xMT xFT yEX xm172 yD_209.2.1 yD_209.2.2.1 400 = true := by decide +kernel
-- IceBoatsModel.put
def yD_210 : YD := (171, ([(1, 30, 0), (0, -2147483648, 2147483647), (0, -2147483648, 2147483647), (0, -2147483648, 2147483647)], [], false, [(some (.inr (-1, [])), [(-1, [(1, -1)])]), (some (.inr (-1, [])), [(-4, [(1, 1)])]), (some (.inr (-3, [])), [(-1, [(2, -1)]), (0, [(1, 1)]), (3, [(1, -1)])]), (some (.inr (-3, [])), [(0, [(1, 1)]), (0, [(2, 1)]), (3, [(1, -1)])]), (some (.inl (0, -2147483648, 2147483647)), [(0, [(1, 1)]), (0, [(2, 1)]), (3, [(1, -1)]), (39, [(2, -1)])]), (some (.inr (-3, [])), [(0, [(1, 1)]), (3, [(1, -1)])])]), [], 400)
def yD210 : List YD := yD_210 :: yD209
theorem yk_210 : ychk yKD (yct yCT0 yD209) xMT xFT yEX xm171 yD_210.2.1 yD_210.2.2.1 400 = true := by decide +kernel
-- IceBoatsModel.isCell
def yD_211 : YD := (174, ([(0, -2147483648, 2147483647)], [], true, [(some (.inr (0, [])), [(-1, [(0, -1)])]), (some (.inr (0, [])), [(-64, [(0, 1)])]), (some (.inr (1, [])), [(0, [(0, 1)]), (63, [(0, -1)])])]), [], 400)
def yD211 : List YD := yD_211 :: yD210
theorem yk_211 : ychk yKD (yct yCT0 yD210) xMT xFT yEX xm174 yD_211.2.1 yD_211.2.2.1 400 = true := by decide +kernel
-- IceBoatsModel.isTaken
def yD_212 : YD := (175, ([(1, 30, 0), (0, -2147483648, 2147483647)], [], true, [(some (.inl (0, 0, 1)), [])]), [(16, [(0, 1, (1, 30, 0)), (1, 1, (0, -2147483648, 2147483647)), (2, 1, (0, 0, 1)), (3, 1, (0, 0, 6))], [(0, 17, (0, 0, 63))], [], (13, [(3, -2)]))], 400)
def yD212 : List YD := yD_212 :: yD211
theorem yk_212 : ychk yKD (yct yCT0 yD211) xMT xFT yEX xm175 yD_212.2.1 yD_212.2.2.1 400 = true := by decide +kernel
-- IceBoatsModel.rock
def yD_213 : YD := (173, ([(1, 30, 0), (0, -2147483648, 2147483647), (0, 0, 1)], [], false, [(some (.inr (-4, [])), [(-1, [(2, 1)]), (0, [(1, 1)]), (63, [(1, -1)])]), (some (.inr (1, [])), [(-1, [(2, 1)]), (0, [(1, 1)]), (63, [(1, -1)])]), (some (.inr (0, [])), [(-1, [(2, 1)]), (0, [(1, 1)]), (63, [(1, -1)])]), (some (.inr (1, [])), [(0, [(1, 1)]), (0, [(2, -1)]), (63, [(1, -1)])]), (some (.inr (0, [])), [(0, [(1, 1)]), (0, [(2, -1)]), (63, [(1, -1)])]), (some (.inr (-1, [])), [(-64, [(1, 1)])]), (some (.inr (-1, [])), [(-1, [(1, -1)])])]), [], 400)
def yD213 : List YD := yD_213 :: yD212
theorem yk_213 : ychk yKD (yct yCT0 yD212) xMT xFT yEX xm173 yD_213.2.1 yD_213.2.2.1 400 = true := by decide +kernel
-- IceBoatsModel.isWay
def yD_214 : YD := (177, ([(0, -2147483648, 2147483647)], [], true, [(some (.inr (0, [])), [(-1, [(0, -1)])]), (some (.inr (0, [])), [(-5, [(0, 1)])]), (some (.inr (1, [])), [(0, [(0, 1)]), (4, [(0, -1)])])]), [], 400)
def yD214 : List YD := yD_214 :: yD213
theorem yk_214 : ychk yKD (yct yCT0 yD213) xMT xFT yEX xm177 yD_214.2.1 yD_214.2.2.1 400 = true := by decide +kernel
-- IceBoatsModel.isIce
def yD_215 : YD := (178, ([(0, -2147483648, 2147483647)], [], true, [(some (.inr (0, [])), [(-1, [(0, -1)])]), (some (.inr (0, [])), [(-10, [(0, 1)])]), (some (.inr (1, [])), [(0, [(0, 1)]), (9, [(0, -1)])])]), [], 400)
def yD215 : List YD := yD_215 :: yD214
theorem yk_215 : ychk yKD (yct yCT0 yD214) xMT xFT yEX xm178 yD_215.2.1 yD_215.2.2.1 400 = true := by decide +kernel
-- IceBoatsModel.cell
def yD_216 : YD := (176, ([(1, 30, 0), (0, -2147483648, 2147483647), (0, -2147483648, 2147483647), (0, -2147483648, 2147483647), (0, -2147483648, 2147483647)], [], false, [(some (.inr (-1, [])), [(0, [(1, 1)]), (0, [(2, 1)]), (0, [(3, -1)]), (4, [(2, -1)]), (63, [(1, -1)])]), (some (.inr (-1, [])), [(-5, [(3, 1)]), (0, [(1, 1)]), (0, [(2, 1)]), (4, [(2, -1)]), (63, [(1, -1)])]), (some (.inr (1, [])), [(-1, [(3, 1)]), (0, [(1, 1)]), (0, [(2, 1)]), (0, [(4, 1)]), (4, [(2, -1)]), (4, [(3, -1)]), (9, [(4, -1)]), (63, [(1, -1)])]), (some (.inr (-1, [])), [(-10, [(4, 1)]), (-1, [(3, 1)]), (0, [(1, 1)]), (0, [(2, 1)]), (4, [(2, -1)]), (4, [(3, -1)]), (63, [(1, -1)])]), (some (.inr (-1, [])), [(-1, [(3, 1)]), (-1, [(4, -1)]), (0, [(1, 1)]), (0, [(2, 1)]), (4, [(2, -1)]), (4, [(3, -1)]), (63, [(1, -1)])]), (some (.inr (-1, [])), [(-5, [(2, 1)]), (0, [(1, 1)]), (63, [(1, -1)])]), (some (.inr (-1, [])), [(-1, [(2, -1)]), (0, [(1, 1)]), (63, [(1, -1)])]), (some (.inr (-1, [])), [(-64, [(1, 1)])]), (some (.inr (-1, [])), [(-1, [(1, -1)])])]), [], 400)
def yD216 : List YD := yD_216 :: yD215
theorem yk_216 : ychk yKD (yct yCT0 yD215) xMT xFT yEX xm176 yD_216.2.1 yD_216.2.2.1 400 = true := by decide +kernel
-- IceBoatsModel.seaTells
def yD_217 : YD := (180, ([(1, 30, 0), (0, 0, 63), (0, 0, 4)], [], true, [(some (.inr (1, [])), [(0, [(2, -1)])]), (some (.inr (0, [])), [(0, [(2, -1)])]), (some (.inl (0, 0, 4)), [(-1, [(2, 1)]), (1, [(2, -1)])]), (some (.inl (0, 1, 4)), [(-2, [(2, 1)]), (2, [(2, -1)])]), (some (.inl (0, -2147483648, 2147483647)), [(-3, [(2, 1)]), (3, [(2, -1)])]), (some (.inl (0, -2147483648, 2147483647)), [(-4, [(2, 1)])])]), [], 400)
def yD217 : List YD := yD_217 :: yD216
theorem yk_217 : ychk yKD (yct yCT0 yD216) xMT xFT yEX xm180 yD_217.2.1 yD_217.2.2.1 400 = true := by decide +kernel
-- IceBoatsModel.sea
def yD_218 : YD := (179, ([(1, 30, 0), (0, -2147483648, 2147483647), (0, -2147483648, 2147483647)], [], false, [(some (.inr (-1, [])), [(-1, [(2, -1)]), (0, [(1, 1)]), (63, [(1, -1)])]), (some (.inr (-1, [])), [(-5, [(2, 1)]), (0, [(1, 1)]), (63, [(1, -1)])]), (some (.inr (1, [])), [(-4, [(2, 1)]), (0, [(1, 1)]), (4, [(2, -1)]), (63, [(1, -1)])]), (some (.inr (1, [])), [(-3, [(2, 1)]), (0, [(1, 1)]), (3, [(2, -1)]), (63, [(1, -1)])]), (some (.inr (1, [])), [(-2, [(2, 1)]), (0, [(1, 1)]), (2, [(2, -1)]), (63, [(1, -1)])]), (some (.inr (1, [])), [(-1, [(2, 1)]), (0, [(1, 1)]), (1, [(2, -1)]), (63, [(1, -1)])]), (some (.inr (1, [])), [(0, [(1, 1)]), (0, [(2, -1)]), (0, [(2, 1)]), (63, [(1, -1)])]), (some (.inr (-1, [])), [(-64, [(1, 1)])]), (some (.inr (-1, [])), [(-1, [(1, -1)])])]), [], 400)
def yD218 : List YD := yD_218 :: yD217
theorem yk_218 : ychk yKD (yct yCT0 yD217) xMT xFT yEX xm179 yD_218.2.1 yD_218.2.2.1 400 = true := by decide +kernel
-- IceBoatsModel.chart
def yD_219 : YD := (181, ([(1, 30, 0), (0, -2147483648, 2147483647), (0, -2147483648, 2147483647)], [], false, [(some (.inr (1, [])), [(0, [(1, 1)]), (0, [(2, 1)]), (9, [(2, -1)]), (63, [(1, -1)])]), (some (.inr (-1, [])), [(-10, [(2, 1)]), (0, [(1, 1)]), (63, [(1, -1)])]), (some (.inr (-1, [])), [(-1, [(2, -1)]), (0, [(1, 1)]), (8, [(2, 1)]), (63, [(1, -1)])]), (some (.inr (-1, [])), [(-10, [(2, -1)]), (0, [(1, 1)]), (63, [(1, -1)])]), (some (.inr (1, [])), [(-9, [(2, -1)]), (0, [(1, 1)]), (9, [(2, 1)]), (63, [(1, -1)])]), (some (.inr (-1, [])), [(-64, [(1, 1)])]), (some (.inr (-1, [])), [(-1, [(1, -1)])])]), [], 400)
def yD219 : List YD := yD_219 :: yD218
theorem yk_219 : ychk yKD (yct yCT0 yD218) xMT xFT yEX xm181 yD_219.2.1 yD_219.2.2.1 400 = true := by decide +kernel
-- IceBoatsModel.hole
def yD_220 : YD := (182, ([(1, 30, 0), (0, -2147483648, 2147483647)], [], false, [(some (.inr (-4, [])), [(0, [(1, 1)]), (63, [(1, -1)])]), (some (.inl (0, 0, 63)), [(0, [(1, 1)]), (63, [(1, -1)])]), (some (.inr (-1, [])), [(-64, [(1, 1)])]), (some (.inr (-1, [])), [(-1, [(1, -1)])])]), [], 400)
def yD220 : List YD := yD_220 :: yD219
theorem yk_220 : ychk yKD (yct yCT0 yD219) xMT xFT yEX xm182 yD_220.2.1 yD_220.2.2.1 400 = true := by decide +kernel
-- IceBoatsModel.seed
def yD_221 : YD := (183, ([(1, 30, 0), (0, -2147483648, 2147483647)], [], false, [(some (.inr (1, [])), [])]), [], 400)
def yD221 : List YD := yD_221 :: yD220
theorem yk_221 : ychk yKD (yct yCT0 yD220) xMT xFT yEX xm183 yD_221.2.1 yD_221.2.2.1 400 = true := by decide +kernel
-- IceBoatsModel.time
def yD_222 : YD := (184, ([(1, 30, 0), (0, -2147483648, 2147483647), (0, -2147483648, 2147483647)], [], false, [(some (.inr (-1, [])), [(0, [(1, 1)]), (0, [(2, 1)]), (63, [(1, -1)]), (63, [(2, -1)])]), (some (.inl (0, -2147483648, 99999)), [(0, [(1, 1)]), (0, [(2, 1)]), (63, [(1, -1)]), (63, [(2, -1)])]), (some (.inr (-3, [])), [(0, [(1, 1)]), (0, [(2, 1)]), (63, [(1, -1)]), (63, [(2, -1)])]), (some (.inr (-1, [])), [(-64, [(2, 1)]), (0, [(1, 1)]), (63, [(1, -1)])]), (some (.inr (-1, [])), [(-1, [(2, -1)]), (0, [(1, 1)]), (63, [(1, -1)])]), (some (.inr (-1, [])), [(-64, [(1, 1)])]), (some (.inr (-1, [])), [(-1, [(1, -1)])])]), [], 400)
def yD222 : List YD := yD_222 :: yD221
theorem yk_222 : ychk yKD (yct yCT0 yD221) xMT xFT yEX xm184 yD_222.2.1 yD_222.2.2.1 400 = true := by decide +kernel
-- IceBoatsModel.isBoat
def yD_223 : YD := (188, ([(0, -2147483648, 2147483647)], [], true, [(some (.inr (0, [])), [(-1, [(0, -1)])]), (some (.inr (0, [])), [(-6, [(0, 1)])]), (some (.inr (1, [])), [(0, [(0, 1)]), (5, [(0, -1)])])]), [], 400)
def yD223 : List YD := yD_223 :: yD222
theorem yk_223 : ychk yKD (yct yCT0 yD222) xMT xFT yEX xm188 yD_223.2.1 yD_223.2.2.1 400 = true := by decide +kernel
-- IceBoatsModel.boat
def yD_224 : YD := (187, ([(1, 30, 0), (0, -2147483648, 2147483647), (0, -2147483648, 2147483647), (0, -2147483648, 2147483647), (0, -2147483648, 2147483647)], [], false, [(some (.inr (-1, [])), [(-1, [(2, -1)]), (0, [(1, 1)]), (5, [(1, -1)])]), (some (.inr (-1, [])), [(-4, [(2, 1)]), (0, [(1, 1)]), (5, [(1, -1)])]), (some (.inr (-1, [])), [(-1, [(4, -1)]), (0, [(1, 1)]), (0, [(2, 1)]), (0, [(3, 1)]), (3, [(2, -1)]), (5, [(1, -1)]), (63, [(3, -1)])]), (some (.inr (-1, [])), [(-1001, [(4, 1)]), (0, [(1, 1)]), (0, [(2, 1)]), (0, [(3, 1)]), (3, [(2, -1)]), (5, [(1, -1)]), (63, [(3, -1)])]), (some (.inr (-4, [])), [(0, [(1, 1)]), (0, [(2, 1)]), (0, [(3, 1)]), (0, [(4, 1)]), (3, [(2, -1)]), (5, [(1, -1)]), (63, [(3, -1)]), (1000, [(4, -1)])]), (some (.inr (1, [])), [(0, [(1, 1)]), (0, [(2, 1)]), (0, [(3, 1)]), (0, [(4, 1)]), (3, [(2, -1)]), (5, [(1, -1)]), (63, [(3, -1)]), (1000, [(4, -1)])]), (some (.inr (-1, [])), [(-64, [(3, 1)]), (0, [(1, 1)]), (0, [(2, 1)]), (3, [(2, -1)]), (5, [(1, -1)])]), (some (.inr (-1, [])), [(-1, [(3, -1)]), (0, [(1, 1)]), (0, [(2, 1)]), (3, [(2, -1)]), (5, [(1, -1)])]), (some (.inr (-1, [])), [(-6, [(1, 1)])]), (some (.inr (-1, [])), [(-1, [(1, -1)])])]), [], 400)
def yD224 : List YD := yD_224 :: yD223
theorem yk_224 : ychk yKD (yct yCT0 yD223) xMT xFT yEX xm187 yD_224.2.1 yD_224.2.2.1 400 = true := by decide +kernel
-- IceBoatsModel.heldBy
def yD_225 : YD := (193, ([(1, 30, 0), (0, -2147483648, 2147483647)], [], true, [(some (.inl (0, -2147483648, 2147483647)), [])]), [(4, [(0, 1, (1, 30, 0)), (1, 1, (0, -2147483648, 2147483647)), (2, 1, (0, -2147483648, 2147483647)), (3, 1, (0, 0, 40))], [], [], (81, [(3, -2)]))], 400)
def yD225 : List YD := yD_225 :: yD224
theorem yk_225 : ychk yKD (yct yCT0 yD224) xMT xFT yEX xm193 yD_225.2.1 yD_225.2.2.1 400 = true := by decide +kernel
-- IceBoatsModel.has
def yD_226 : YD := (192, ([(2, 0, 0), (0, -2147483648, 2147483647)], [], true, [(some (.inr (1, [])), []), (some (.inr (0, [])), [])]), [], 400)
def yD226 : List YD := yD_226 :: yD225
theorem yk_226 : ychk yKD (yct yCT0 yD225) xMT xFT yEX xm192 yD_226.2.1 yD_226.2.2.1 400 = true := by decide +kernel
-- IceBoatsModel.many
def yD_227 : YD := (191, ([(2, 0, 0)], [], true, [(some (.inl (0, -2147483648, 2147483647)), [])]), [(4, [(0, 1, (2, 0, 0)), (2, 1, (0, -2147483648, 2147483647)), (3, 1, (0, 0, 64))], [], [], (129, [(2, -2)]))], 400)
def yD227 : List YD := yD_227 :: yD226
theorem yk_227 : ychk yKD (yct yCT0 yD226) xMT xFT yEX xm191 yD_227.2.1 yD_227.2.2.1 400 = true := by decide +kernel
-- IceBoatsModel.boatTells
def yD_228 : YD := (190, ([(1, 30, 0), (0, 0, 5), (0, 0, 5)], [], true, [(some (.inl (0, -2147483648, 2147483647)), [(-5, [(2, 1)])]), (some (.inl (0, -2147483648, 2147483647)), [(-4, [(2, 1)]), (4, [(2, -1)])]), (some (.inl (0, -2147483648, 2147483647)), [(-3, [(2, 1)]), (3, [(2, -1)])]), (some (.inl (0, -2147483648, 2147483647)), [(-2, [(2, 1)]), (2, [(2, -1)])]), (some (.inl (0, 0, 63)), [(-1, [(2, 1)]), (1, [(2, -1)])]), (some (.inl (0, 0, 6)), [(0, [(2, -1)])])]), [], 400)
def yD228 : List YD := yD_228 :: yD227
theorem yk_228 : ychk yKD (yct yCT0 yD227) xMT xFT yEX xm190 yD_228.2.1 yD_228.2.2.1 400 = true := by decide +kernel
-- IceBoatsModel.told
def yD_229 : YD := (189, ([(1, 30, 0), (0, -2147483648, 2147483647), (0, -2147483648, 2147483647)], [], false, [(some (.inr (-1, [])), [(-1, [(2, -1)]), (0, [(1, 1)]), (5, [(1, -1)])]), (some (.inr (-1, [])), [(-6, [(2, 1)]), (0, [(1, 1)]), (5, [(1, -1)])]), (some (.inr (1, [])), [(0, [(1, 1)]), (0, [(2, -1)]), (0, [(2, 1)]), (5, [(1, -1)])]), (some (.inr (1, [])), [(-1, [(2, 1)]), (0, [(1, 1)]), (1, [(2, -1)]), (5, [(1, -1)])]), (some (.inr (1, [])), [(-2, [(2, 1)]), (0, [(1, 1)]), (2, [(2, -1)]), (5, [(1, -1)])]), (some (.inr (1, [])), [(-3, [(2, 1)]), (0, [(1, 1)]), (3, [(2, -1)]), (5, [(1, -1)])]), (some (.inr (1, [])), [(-4, [(2, 1)]), (0, [(1, 1)]), (4, [(2, -1)]), (5, [(1, -1)])]), (some (.inr (1, [])), [(-5, [(2, 1)]), (0, [(1, 1)]), (5, [(1, -1)]), (5, [(2, -1)])]), (some (.inr (-1, [])), [(-6, [(1, 1)])]), (some (.inr (-1, [])), [(-1, [(1, -1)])])]), [], 400)
def yD229 : List YD := yD_229 :: yD228
theorem yk_229 : ychk yKD (yct yCT0 yD228) xMT xFT yEX xm189 yD_229.2.1 yD_229.2.2.1 400 = true := by decide +kernel
-- IceBoatsModel.mark
def yD_230 : YD := (194, ([(1, 30, 0), (0, -2147483648, 2147483647), (0, -2147483648, 2147483647)], [], false, [(some (.inl (0, -2147483648, 2147483647)), [])]), [(133, [(0, 1, (1, 30, 0)), (1, 1, (0, 0, 5)), (2, 1, (0, 5, 5)), (3, 1, (0, 1, 1)), (4, 1, (0, -2147483648, 2147483647)), (5, 1, (0, 0, 40))], [(0, 20, (1, 43, 0))], [], (81, [(5, -2)]))], 400)
def yD230 : List YD := yD_230 :: yD229
theorem yk_230 : ychk yKD (yct yCT0 yD229) xMT xFT yEX xm194 yD_230.2.1 yD_230.2.2.1 400 = true := by decide +kernel
-- IceBoatsModel.could
def yD_231 : YD := (195, ([(1, 30, 0), (0, -2147483648, 2147483647)], [], false, [(some (.inl (0, -2147483648, 2147483647)), [(0, [(1, 1)]), (5, [(1, -1)])]), (some (.inr (-1, [])), [(-6, [(1, 1)])]), (some (.inr (-1, [])), [(-1, [(1, -1)])])]), [], 400)
def yD231 : List YD := yD_231 :: yD230
theorem yk_231 : ychk yKD (yct yCT0 yD230) xMT xFT yEX xm195 yD_231.2.1 yD_231.2.2.1 400 = true := by decide +kernel
-- IceBoatsModel.isAble
def yD_232 : YD := (197, ([(1, 30, 0), (0, 0, 5)], [], true, [(some (.inr (1, [])), []), (some (.inr (0, [])), [])]), [], 400)
def yD232 : List YD := yD_232 :: yD231
theorem yk_232 : ychk yKD (yct yCT0 yD231) xMT xFT yEX xm197 yD_232.2.1 yD_232.2.2.1 400 = true := by decide +kernel
-- IceBoatsModel.go
def yD_233 : YD := (196, ([(1, 30, 0), (0, -2147483648, 2147483647), (0, -2147483648, 2147483647)], [], false, [(some (.inr (-4, [])), [(0, [(1, 1)]), (0, [(2, 1)]), (4, [(2, -1)]), (5, [(1, -1)])]), (some (.inr (1, [])), [(0, [(1, 1)]), (0, [(2, 1)]), (4, [(2, -1)]), (5, [(1, -1)])]), (some (.inr (-1, [])), [(-5, [(2, 1)]), (0, [(1, 1)]), (5, [(1, -1)])]), (some (.inr (-1, [])), [(-1, [(2, -1)]), (0, [(1, 1)]), (5, [(1, -1)])]), (some (.inr (-1, [])), [(-6, [(1, 1)])]), (some (.inr (-1, [])), [(-1, [(1, -1)])])]), [], 400)
def yD233 : List YD := yD_233 :: yD232
theorem yk_233 : ychk yKD (yct yCT0 yD232) xMT xFT yEX xm196 yD_233.2.1 yD_233.2.2.1 400 = true := by decide +kernel
-- IceBoatsModel.leads
def yD_234 : YD := (186, ([(1, 30, 0), (0, 0, 63), (0, 1, 1)], [], true, [(some (.inr (0, [(1, 1)])), [(-1, [(1, 1)]), (63, [(1, -1)])]), (some (.inr (-8, [(1, 1)])), [(-8, [(1, 1)]), (63, [(1, -1)])]), (some (.inr (0, [(1, 1)])), [(0, [(1, 1)]), (7, [(1, -1)])])]), [], 400)
def yD234 : List YD := yD_234 :: yD233
theorem yk_234 : ychk yKD (yct yCT0 yD233) xMT xFT yEX xm186 yD_234.2.1 yD_234.2.2.1 400 = true := by decide +kernel
-- IceBoatsModel.apart
def yD_235 : YD := (206, ([(0, -2147483648, 2147483647), (0, -2147483648, 2147483647)], [], true, [(some (.inl (0, -2147483648, 2147483647)), [])]), [], 400)
def yD235 : List YD := yD_235 :: yD234
theorem yk_235 : ychk yKD (yct yCT0 yD234) xMT xFT yEX xm206 yD_235.2.1 yD_235.2.2.1 400 = true := by decide +kernel
-- IceBoatsModel.leads
def yD_236 : YD := (186, ([(1, 30, 0), (0, 0, 63), (0, 1, 2)], [], true, [(some (.inr (0, [(1, 1)])), [(-1, [(1, 1)]), (1, [(2, -1)]), (63, [(1, -1)])]), (some (.inr (-8, [(1, 1)])), [(-8, [(1, 1)]), (1, [(2, -1)]), (63, [(1, -1)])]), (some (.inr (0, [(1, 1)])), [(0, [(1, 1)]), (1, [(2, -1)]), (7, [(1, -1)])]), (some (.inr (0, [(1, 1)])), [(-2, [(2, 1)]), (-1, [(1, 1)]), (63, [(1, -1)])]), (some (.inr (-1, [(1, 1)])), [(-2, [(2, 1)]), (-1, [(1, 1)]), (63, [(1, -1)])]), (some (.inr (0, [(1, 1)])), [(-2, [(2, 1)])])]), [], 400)
def yD236 : List YD := yD_236 :: yD235
theorem yk_236 : ychk yKD (yct yCT0 yD235) xMT xFT yEX xm186 yD_236.2.1 yD_236.2.2.1 400 = true := by decide +kernel
-- IceBoatsModel.leads
def yD_237 : YD := (186, ([(1, 30, 0), (0, 0, 63), (0, 1, 3)], [], true, [(some (.inr (0, [(1, 1)])), [(-1, [(1, 1)]), (1, [(2, -1)]), (63, [(1, -1)])]), (some (.inr (-8, [(1, 1)])), [(-8, [(1, 1)]), (1, [(2, -1)]), (63, [(1, -1)])]), (some (.inr (0, [(1, 1)])), [(0, [(1, 1)]), (1, [(2, -1)]), (7, [(1, -1)])]), (some (.inr (0, [(1, 1)])), [(-2, [(2, 1)]), (-1, [(1, 1)]), (2, [(2, -1)]), (63, [(1, -1)])]), (some (.inr (-1, [(1, 1)])), [(-2, [(2, 1)]), (-1, [(1, 1)]), (2, [(2, -1)]), (63, [(1, -1)])]), (some (.inr (0, [(1, 1)])), [(-2, [(2, 1)]), (2, [(2, -1)])]), (some (.inr (0, [(1, 1)])), [(-3, [(2, 1)])]), (some (.inr (1, [(1, 1)])), [(-3, [(2, 1)]), (0, [(1, 1)]), (62, [(1, -1)])]), (some (.inr (0, [(1, 1)])), [(-3, [(2, 1)]), (-1, [(1, 1)]), (63, [(1, -1)])])]), [], 400)
def yD237 : List YD := yD_237 :: yD236
theorem yk_237 : ychk yKD (yct yCT0 yD236) xMT xFT yEX xm186 yD_237.2.1 yD_237.2.2.1 400 = true := by decide +kernel
-- IceBoatsModel.leads
def yD_238 : YD := (186, ([(1, 30, 0), (0, 0, 63), (0, 1, 4)], [], true, [(some (.inr (0, [(1, 1)])), [(-1, [(1, 1)]), (1, [(2, -1)]), (63, [(1, -1)])]), (some (.inr (-8, [(1, 1)])), [(-8, [(1, 1)]), (1, [(2, -1)]), (63, [(1, -1)])]), (some (.inr (0, [(1, 1)])), [(0, [(1, 1)]), (1, [(2, -1)]), (7, [(1, -1)])]), (some (.inr (0, [(1, 1)])), [(-2, [(2, 1)]), (-1, [(1, 1)]), (2, [(2, -1)]), (63, [(1, -1)])]), (some (.inr (-1, [(1, 1)])), [(-2, [(2, 1)]), (-1, [(1, 1)]), (2, [(2, -1)]), (63, [(1, -1)])]), (some (.inr (0, [(1, 1)])), [(-2, [(2, 1)]), (2, [(2, -1)])]), (some (.inr (0, [(1, 1)])), [(-3, [(2, 1)]), (3, [(2, -1)])]), (some (.inr (1, [(1, 1)])), [(-3, [(2, 1)]), (0, [(1, 1)]), (3, [(2, -1)]), (62, [(1, -1)])]), (some (.inr (0, [(1, 1)])), [(-3, [(2, 1)]), (-1, [(1, 1)]), (3, [(2, -1)]), (63, [(1, -1)])]), (some (.inr (0, [(1, 1)])), [(-4, [(2, 1)])]), (some (.inr (8, [(1, 1)])), [(-4, [(2, 1)]), (0, [(1, 1)]), (55, [(1, -1)])]), (some (.inr (0, [(1, 1)])), [(-4, [(2, 1)]), (-1, [(1, 1)]), (63, [(1, -1)])])]), [], 400)
def yD238 : List YD := yD_238 :: yD237
theorem yk_238 : ychk yKD (yct yCT0 yD237) xMT xFT yEX xm186 yD_238.2.1 yD_238.2.2.1 400 = true := by decide +kernel
-- IceBoatsModel.nearer
def yD_239 : YD := (204, ([(1, 30, 0), (0, 0, 0), (0, 0, 63)], [], true, [(some (.inl (0, 0, 4)), [])]), [(13, [(0, 1, (1, 30, 0)), (1, 1, (0, 0, 0)), (2, 1, (0, 0, 63)), (3, 1, (0, 0, 63)), (4, 1, (0, 1, 5))], [(0, 23, (1, 46, 0))], [], (11, [(4, -2)]))], 400)
def yD239 : List YD := yD_239 :: yD238
theorem yk_239 : ychk yKD (yct yCT0 yD238) xMT xFT yEX xm204 yD_239.2.1 yD_239.2.2.1 400 = true := by decide +kernel
-- IceBoatsModel.keepsFar
def yD_240 : YD := (203, ([(1, 30, 0), (0, 0, 0), (0, 0, 0)], [], false, [(none, [])]), [(18, [(0, 1, (1, 30, 0)), (1, 1, (0, 0, 0)), (2, 1, (0, 0, 0)), (3, 1, (0, -2147483648, 2147483647)), (4, 1, (2, 0, 0)), (6, 1, (0, 0, 64))], [], [], (8579, [(5, -132)])), (58, [(0, 1, (1, 30, 0)), (1, 1, (0, 0, 0)), (2, 1, (0, 0, 0)), (3, 1, (0, -2147483648, 2147483647)), (4, 1, (2, 0, 0)), (6, 1, (0, 0, 63)), (7, 1, (0, 0, 64))], [], [], (8577, [(5, -132), (6, -2)]))], 400)
def yD240 : List YD := yD_240 :: yD239
theorem yk_240 : ychk yKD (yct yCT0 yD239) xMT xFT yEX xm203 yD_240.2.1 yD_240.2.2.1 400 = true := by decide +kernel
-- IceBoatsModel.takes
def yD_241 : YD := (202, ([(1, 30, 0), (0, 0, 0), (0, 0, 0)], [], false, [(none, [])]), [], 400)
def yD241 : List YD := yD_241 :: yD240
theorem yk_241 : ychk yKD (yct yCT0 yD240) xMT xFT yEX xm202 yD_241.2.1 yD_241.2.2.1 400 = true := by decide +kernel
-- IceBoatsModel.keepsFar
def yD_242 : YD := (203, ([(1, 30, 0), (0, 0, 0), (0, 0, 1)], [], false, [(none, [])]), [(18, [(0, 1, (1, 30, 0)), (1, 1, (0, 0, 0)), (2, 1, (0, 0, 1)), (3, 1, (0, -2147483648, 2147483647)), (4, 1, (2, 0, 0)), (6, 1, (0, 0, 64))], [], [], (8579, [(5, -132)])), (58, [(0, 1, (1, 30, 0)), (1, 1, (0, 0, 0)), (2, 1, (0, 0, 1)), (3, 1, (0, -2147483648, 2147483647)), (4, 1, (2, 0, 0)), (6, 1, (0, 0, 63)), (7, 1, (0, 0, 64))], [], [], (8577, [(5, -132), (6, -2)]))], 400)
def yD242 : List YD := yD_242 :: yD241
theorem yk_242 : ychk yKD (yct yCT0 yD241) xMT xFT yEX xm203 yD_242.2.1 yD_242.2.2.1 400 = true := by decide +kernel
-- IceBoatsModel.takes
def yD_243 : YD := (202, ([(1, 30, 0), (0, 0, 0), (0, 0, 1)], [], false, [(none, [])]), [], 400)
def yD243 : List YD := yD_243 :: yD242
theorem yk_243 : ychk yKD (yct yCT0 yD242) xMT xFT yEX xm202 yD_243.2.1 yD_243.2.2.1 400 = true := by decide +kernel
-- IceBoatsModel.keepsFar
def yD_244 : YD := (203, ([(1, 30, 0), (0, 0, 0), (0, 0, 3)], [], false, [(none, [])]), [(18, [(0, 1, (1, 30, 0)), (1, 1, (0, 0, 0)), (2, 1, (0, 0, 3)), (3, 1, (0, -2147483648, 2147483647)), (4, 1, (2, 0, 0)), (6, 1, (0, 0, 64))], [], [], (8579, [(5, -132)])), (58, [(0, 1, (1, 30, 0)), (1, 1, (0, 0, 0)), (2, 1, (0, 0, 3)), (3, 1, (0, -2147483648, 2147483647)), (4, 1, (2, 0, 0)), (6, 1, (0, 0, 63)), (7, 1, (0, 0, 64))], [], [], (8577, [(5, -132), (6, -2)]))], 400)
def yD244 : List YD := yD_244 :: yD243
theorem yk_244 : ychk yKD (yct yCT0 yD243) xMT xFT yEX xm203 yD_244.2.1 yD_244.2.2.1 400 = true := by decide +kernel
-- IceBoatsModel.takes
def yD_245 : YD := (202, ([(1, 30, 0), (0, 0, 0), (0, 0, 3)], [], false, [(none, [])]), [], 400)
def yD245 : List YD := yD_245 :: yD244
theorem yk_245 : ychk yKD (yct yCT0 yD244) xMT xFT yEX xm202 yD_245.2.1 yD_245.2.2.1 400 = true := by decide +kernel
-- IceBoatsModel.keepsFar
def yD_246 : YD := (203, ([(1, 30, 0), (0, 0, 0), (0, 0, 5)], [], false, [(none, [])]), [(18, [(0, 1, (1, 30, 0)), (1, 1, (0, 0, 0)), (2, 1, (0, 0, 5)), (3, 1, (0, -2147483648, 2147483647)), (4, 1, (2, 0, 0)), (6, 1, (0, 0, 64))], [], [], (8579, [(5, -132)])), (58, [(0, 1, (1, 30, 0)), (1, 1, (0, 0, 0)), (2, 1, (0, 0, 5)), (3, 1, (0, -2147483648, 2147483647)), (4, 1, (2, 0, 0)), (6, 1, (0, 0, 63)), (7, 1, (0, 0, 64))], [], [], (8577, [(5, -132), (6, -2)]))], 400)
def yD246 : List YD := yD_246 :: yD245
theorem yk_246 : ychk yKD (yct yCT0 yD245) xMT xFT yEX xm203 yD_246.2.1 yD_246.2.2.1 400 = true := by decide +kernel
-- IceBoatsModel.takes
def yD_247 : YD := (202, ([(1, 30, 0), (0, 0, 0), (0, 0, 5)], [], false, [(none, [])]), [], 400)
def yD247 : List YD := yD_247 :: yD246
theorem yk_247 : ychk yKD (yct yCT0 yD246) xMT xFT yEX xm202 yD_247.2.1 yD_247.2.2.1 400 = true := by decide +kernel
-- IceBoatsModel.keepsFar
def yD_248 : YD := (203, ([(1, 30, 0), (0, 0, 0), (0, 0, 6)], [], false, [(none, [])]), [(18, [(0, 1, (1, 30, 0)), (1, 1, (0, 0, 0)), (2, 1, (0, 0, 6)), (3, 1, (0, -2147483648, 2147483647)), (4, 1, (2, 0, 0)), (6, 1, (0, 0, 64))], [], [], (8579, [(5, -132)])), (58, [(0, 1, (1, 30, 0)), (1, 1, (0, 0, 0)), (2, 1, (0, 0, 6)), (3, 1, (0, -2147483648, 2147483647)), (4, 1, (2, 0, 0)), (6, 1, (0, 0, 63)), (7, 1, (0, 0, 64))], [], [], (8577, [(5, -132), (6, -2)]))], 400)
def yD248 : List YD := yD_248 :: yD247
theorem yk_248 : ychk yKD (yct yCT0 yD247) xMT xFT yEX xm203 yD_248.2.1 yD_248.2.2.1 400 = true := by decide +kernel
-- IceBoatsModel.takes
def yD_249 : YD := (202, ([(1, 30, 0), (0, 0, 0), (0, 0, 6)], [], false, [(none, [])]), [], 400)
def yD249 : List YD := yD_249 :: yD248
theorem yk_249 : ychk yKD (yct yCT0 yD248) xMT xFT yEX xm202 yD_249.2.1 yD_249.2.2.1 400 = true := by decide +kernel
-- IceBoatsModel.keepsFar
def yD_250 : YD := (203, ([(1, 30, 0), (0, 0, 0), (0, 0, 7)], [], false, [(none, [])]), [(18, [(0, 1, (1, 30, 0)), (1, 1, (0, 0, 0)), (2, 1, (0, 0, 7)), (3, 1, (0, -2147483648, 2147483647)), (4, 1, (2, 0, 0)), (6, 1, (0, 0, 64))], [], [], (8579, [(5, -132)])), (58, [(0, 1, (1, 30, 0)), (1, 1, (0, 0, 0)), (2, 1, (0, 0, 7)), (3, 1, (0, -2147483648, 2147483647)), (4, 1, (2, 0, 0)), (6, 1, (0, 0, 63)), (7, 1, (0, 0, 64))], [], [], (8577, [(5, -132), (6, -2)]))], 400)
def yD250 : List YD := yD_250 :: yD249
theorem yk_250 : ychk yKD (yct yCT0 yD249) xMT xFT yEX xm203 yD_250.2.1 yD_250.2.2.1 400 = true := by decide +kernel
-- IceBoatsModel.takes
def yD_251 : YD := (202, ([(1, 30, 0), (0, 0, 0), (0, 0, 7)], [], false, [(none, [])]), [], 400)
def yD251 : List YD := yD_251 :: yD250
theorem yk_251 : ychk yKD (yct yCT0 yD250) xMT xFT yEX xm202 yD_251.2.1 yD_251.2.2.1 400 = true := by decide +kernel
-- IceBoatsModel.keepsFar
def yD_252 : YD := (203, ([(1, 30, 0), (0, 0, 0), (0, 0, 9)], [], false, [(none, [])]), [(18, [(0, 1, (1, 30, 0)), (1, 1, (0, 0, 0)), (2, 1, (0, 0, 9)), (3, 1, (0, -2147483648, 2147483647)), (4, 1, (2, 0, 0)), (6, 1, (0, 0, 64))], [], [], (8579, [(5, -132)])), (58, [(0, 1, (1, 30, 0)), (1, 1, (0, 0, 0)), (2, 1, (0, 0, 9)), (3, 1, (0, -2147483648, 2147483647)), (4, 1, (2, 0, 0)), (6, 1, (0, 0, 63)), (7, 1, (0, 0, 64))], [], [], (8577, [(5, -132), (6, -2)]))], 400)
def yD252 : List YD := yD_252 :: yD251
theorem yk_252 : ychk yKD (yct yCT0 yD251) xMT xFT yEX xm203 yD_252.2.1 yD_252.2.2.1 400 = true := by decide +kernel
-- IceBoatsModel.takes
def yD_253 : YD := (202, ([(1, 30, 0), (0, 0, 0), (0, 0, 9)], [], false, [(none, [])]), [], 400)
def yD253 : List YD := yD_253 :: yD252
theorem yk_253 : ychk yKD (yct yCT0 yD252) xMT xFT yEX xm202 yD_253.2.1 yD_253.2.2.1 400 = true := by decide +kernel
-- IceBoatsModel.keepsFar
def yD_254 : YD := (203, ([(1, 30, 0), (0, 0, 0), (0, 0, 13)], [], false, [(none, [])]), [(18, [(0, 1, (1, 30, 0)), (1, 1, (0, 0, 0)), (2, 1, (0, 0, 13)), (3, 1, (0, -2147483648, 2147483647)), (4, 1, (2, 0, 0)), (6, 1, (0, 0, 64))], [], [], (8579, [(5, -132)])), (58, [(0, 1, (1, 30, 0)), (1, 1, (0, 0, 0)), (2, 1, (0, 0, 13)), (3, 1, (0, -2147483648, 2147483647)), (4, 1, (2, 0, 0)), (6, 1, (0, 0, 63)), (7, 1, (0, 0, 64))], [], [], (8577, [(5, -132), (6, -2)]))], 400)
def yD254 : List YD := yD_254 :: yD253
theorem yk_254 : ychk yKD (yct yCT0 yD253) xMT xFT yEX xm203 yD_254.2.1 yD_254.2.2.1 400 = true := by decide +kernel
-- IceBoatsModel.takes
def yD_255 : YD := (202, ([(1, 30, 0), (0, 0, 0), (0, 0, 13)], [], false, [(none, [])]), [], 400)
def yD255 : List YD := yD_255 :: yD254
theorem yk_255 : ychk yKD (yct yCT0 yD254) xMT xFT yEX xm202 yD_255.2.1 yD_255.2.2.1 400 = true := by decide +kernel
-- IceBoatsModel.keepsFar
def yD_256 : YD := (203, ([(1, 30, 0), (0, 0, 0), (0, 0, 14)], [], false, [(none, [])]), [(18, [(0, 1, (1, 30, 0)), (1, 1, (0, 0, 0)), (2, 1, (0, 0, 14)), (3, 1, (0, -2147483648, 2147483647)), (4, 1, (2, 0, 0)), (6, 1, (0, 0, 64))], [], [], (8579, [(5, -132)])), (58, [(0, 1, (1, 30, 0)), (1, 1, (0, 0, 0)), (2, 1, (0, 0, 14)), (3, 1, (0, -2147483648, 2147483647)), (4, 1, (2, 0, 0)), (6, 1, (0, 0, 63)), (7, 1, (0, 0, 64))], [], [], (8577, [(5, -132), (6, -2)]))], 400)
def yD256 : List YD := yD_256 :: yD255
theorem yk_256 : ychk yKD (yct yCT0 yD255) xMT xFT yEX xm203 yD_256.2.1 yD_256.2.2.1 400 = true := by decide +kernel
-- IceBoatsModel.takes
def yD_257 : YD := (202, ([(1, 30, 0), (0, 0, 0), (0, 0, 14)], [], false, [(none, [])]), [], 400)
def yD257 : List YD := yD_257 :: yD256
theorem yk_257 : ychk yKD (yct yCT0 yD256) xMT xFT yEX xm202 yD_257.2.1 yD_257.2.2.1 400 = true := by decide +kernel
-- IceBoatsModel.keepsFar
def yD_258 : YD := (203, ([(1, 30, 0), (0, 0, 0), (0, 0, 15)], [], false, [(none, [])]), [(18, [(0, 1, (1, 30, 0)), (1, 1, (0, 0, 0)), (2, 1, (0, 0, 15)), (3, 1, (0, -2147483648, 2147483647)), (4, 1, (2, 0, 0)), (6, 1, (0, 0, 64))], [], [], (8579, [(5, -132)])), (58, [(0, 1, (1, 30, 0)), (1, 1, (0, 0, 0)), (2, 1, (0, 0, 15)), (3, 1, (0, -2147483648, 2147483647)), (4, 1, (2, 0, 0)), (6, 1, (0, 0, 63)), (7, 1, (0, 0, 64))], [], [], (8577, [(5, -132), (6, -2)]))], 400)
def yD258 : List YD := yD_258 :: yD257
theorem yk_258 : ychk yKD (yct yCT0 yD257) xMT xFT yEX xm203 yD_258.2.1 yD_258.2.2.1 400 = true := by decide +kernel
-- IceBoatsModel.takes
def yD_259 : YD := (202, ([(1, 30, 0), (0, 0, 0), (0, 0, 15)], [], false, [(none, [])]), [], 400)
def yD259 : List YD := yD_259 :: yD258
theorem yk_259 : ychk yKD (yct yCT0 yD258) xMT xFT yEX xm202 yD_259.2.1 yD_259.2.2.1 400 = true := by decide +kernel
-- IceBoatsModel.keepsFar
def yD_260 : YD := (203, ([(1, 30, 0), (0, 0, 0), (0, 0, 16)], [], false, [(none, [])]), [(18, [(0, 1, (1, 30, 0)), (1, 1, (0, 0, 0)), (2, 1, (0, 0, 16)), (3, 1, (0, -2147483648, 2147483647)), (4, 1, (2, 0, 0)), (6, 1, (0, 0, 64))], [], [], (8579, [(5, -132)])), (58, [(0, 1, (1, 30, 0)), (1, 1, (0, 0, 0)), (2, 1, (0, 0, 16)), (3, 1, (0, -2147483648, 2147483647)), (4, 1, (2, 0, 0)), (6, 1, (0, 0, 63)), (7, 1, (0, 0, 64))], [], [], (8577, [(5, -132), (6, -2)]))], 400)
def yD260 : List YD := yD_260 :: yD259
theorem yk_260 : ychk yKD (yct yCT0 yD259) xMT xFT yEX xm203 yD_260.2.1 yD_260.2.2.1 400 = true := by decide +kernel
-- IceBoatsModel.takes
def yD_261 : YD := (202, ([(1, 30, 0), (0, 0, 0), (0, 0, 16)], [], false, [(none, [])]), [], 400)
def yD261 : List YD := yD_261 :: yD260
theorem yk_261 : ychk yKD (yct yCT0 yD260) xMT xFT yEX xm202 yD_261.2.1 yD_261.2.2.1 400 = true := by decide +kernel
-- IceBoatsModel.keepsFar
def yD_262 : YD := (203, ([(1, 30, 0), (0, 0, 0), (0, 0, 20)], [], false, [(none, [])]), [(18, [(0, 1, (1, 30, 0)), (1, 1, (0, 0, 0)), (2, 1, (0, 0, 20)), (3, 1, (0, -2147483648, 2147483647)), (4, 1, (2, 0, 0)), (6, 1, (0, 0, 64))], [], [], (8579, [(5, -132)])), (58, [(0, 1, (1, 30, 0)), (1, 1, (0, 0, 0)), (2, 1, (0, 0, 20)), (3, 1, (0, -2147483648, 2147483647)), (4, 1, (2, 0, 0)), (6, 1, (0, 0, 63)), (7, 1, (0, 0, 64))], [], [], (8577, [(5, -132), (6, -2)]))], 400)
def yD262 : List YD := yD_262 :: yD261
theorem yk_262 : ychk yKD (yct yCT0 yD261) xMT xFT yEX xm203 yD_262.2.1 yD_262.2.2.1 400 = true := by decide +kernel
-- IceBoatsModel.takes
def yD_263 : YD := (202, ([(1, 30, 0), (0, 0, 0), (0, 0, 20)], [], false, [(none, [])]), [], 400)
def yD263 : List YD := yD_263 :: yD262
theorem yk_263 : ychk yKD (yct yCT0 yD262) xMT xFT yEX xm202 yD_263.2.1 yD_263.2.2.1 400 = true := by decide +kernel
-- IceBoatsModel.keepsFar
def yD_264 : YD := (203, ([(1, 30, 0), (0, 0, 0), (0, 0, 21)], [], false, [(none, [])]), [(18, [(0, 1, (1, 30, 0)), (1, 1, (0, 0, 0)), (2, 1, (0, 0, 21)), (3, 1, (0, -2147483648, 2147483647)), (4, 1, (2, 0, 0)), (6, 1, (0, 0, 64))], [], [], (8579, [(5, -132)])), (58, [(0, 1, (1, 30, 0)), (1, 1, (0, 0, 0)), (2, 1, (0, 0, 21)), (3, 1, (0, -2147483648, 2147483647)), (4, 1, (2, 0, 0)), (6, 1, (0, 0, 63)), (7, 1, (0, 0, 64))], [], [], (8577, [(5, -132), (6, -2)]))], 400)
def yD264 : List YD := yD_264 :: yD263
theorem yk_264 : ychk yKD (yct yCT0 yD263) xMT xFT yEX xm203 yD_264.2.1 yD_264.2.2.1 400 = true := by decide +kernel
-- IceBoatsModel.takes
def yD_265 : YD := (202, ([(1, 30, 0), (0, 0, 0), (0, 0, 21)], [], false, [(none, [])]), [], 400)
def yD265 : List YD := yD_265 :: yD264
theorem yk_265 : ychk yKD (yct yCT0 yD264) xMT xFT yEX xm202 yD_265.2.1 yD_265.2.2.1 400 = true := by decide +kernel
-- IceBoatsModel.keepsFar
def yD_266 : YD := (203, ([(1, 30, 0), (0, 0, 0), (0, 0, 24)], [], false, [(none, [])]), [(18, [(0, 1, (1, 30, 0)), (1, 1, (0, 0, 0)), (2, 1, (0, 0, 24)), (3, 1, (0, -2147483648, 2147483647)), (4, 1, (2, 0, 0)), (6, 1, (0, 0, 64))], [], [], (8579, [(5, -132)])), (58, [(0, 1, (1, 30, 0)), (1, 1, (0, 0, 0)), (2, 1, (0, 0, 24)), (3, 1, (0, -2147483648, 2147483647)), (4, 1, (2, 0, 0)), (6, 1, (0, 0, 63)), (7, 1, (0, 0, 64))], [], [], (8577, [(5, -132), (6, -2)]))], 400)
def yD266 : List YD := yD_266 :: yD265
theorem yk_266 : ychk yKD (yct yCT0 yD265) xMT xFT yEX xm203 yD_266.2.1 yD_266.2.2.1 400 = true := by decide +kernel
-- IceBoatsModel.takes
def yD_267 : YD := (202, ([(1, 30, 0), (0, 0, 0), (0, 0, 24)], [], false, [(none, [])]), [], 400)
def yD267 : List YD := yD_267 :: yD266
theorem yk_267 : ychk yKD (yct yCT0 yD266) xMT xFT yEX xm202 yD_267.2.1 yD_267.2.2.1 400 = true := by decide +kernel
-- IceBoatsModel.keepsFar
def yD_268 : YD := (203, ([(1, 30, 0), (0, 0, 0), (0, 0, 36)], [], false, [(none, [])]), [(18, [(0, 1, (1, 30, 0)), (1, 1, (0, 0, 0)), (2, 1, (0, 0, 36)), (3, 1, (0, -2147483648, 2147483647)), (4, 1, (2, 0, 0)), (6, 1, (0, 0, 64))], [], [], (8579, [(5, -132)])), (58, [(0, 1, (1, 30, 0)), (1, 1, (0, 0, 0)), (2, 1, (0, 0, 36)), (3, 1, (0, -2147483648, 2147483647)), (4, 1, (2, 0, 0)), (6, 1, (0, 0, 63)), (7, 1, (0, 0, 64))], [], [], (8577, [(5, -132), (6, -2)]))], 400)
def yD268 : List YD := yD_268 :: yD267
theorem yk_268 : ychk yKD (yct yCT0 yD267) xMT xFT yEX xm203 yD_268.2.1 yD_268.2.2.1 400 = true := by decide +kernel
-- IceBoatsModel.takes
def yD_269 : YD := (202, ([(1, 30, 0), (0, 0, 0), (0, 0, 36)], [], false, [(none, [])]), [], 400)
def yD269 : List YD := yD_269 :: yD268
theorem yk_269 : ychk yKD (yct yCT0 yD268) xMT xFT yEX xm202 yD_269.2.1 yD_269.2.2.1 400 = true := by decide +kernel
-- IceBoatsModel.keepsFar
def yD_270 : YD := (203, ([(1, 30, 0), (0, 0, 0), (0, 0, 39)], [], false, [(none, [])]), [(18, [(0, 1, (1, 30, 0)), (1, 1, (0, 0, 0)), (2, 1, (0, 0, 39)), (3, 1, (0, -2147483648, 2147483647)), (4, 1, (2, 0, 0)), (6, 1, (0, 0, 64))], [], [], (8579, [(5, -132)])), (58, [(0, 1, (1, 30, 0)), (1, 1, (0, 0, 0)), (2, 1, (0, 0, 39)), (3, 1, (0, -2147483648, 2147483647)), (4, 1, (2, 0, 0)), (6, 1, (0, 0, 63)), (7, 1, (0, 0, 64))], [], [], (8577, [(5, -132), (6, -2)]))], 400)
def yD270 : List YD := yD_270 :: yD269
theorem yk_270 : ychk yKD (yct yCT0 yD269) xMT xFT yEX xm203 yD_270.2.1 yD_270.2.2.1 400 = true := by decide +kernel
-- IceBoatsModel.takes
def yD_271 : YD := (202, ([(1, 30, 0), (0, 0, 0), (0, 0, 39)], [], false, [(none, [])]), [], 400)
def yD271 : List YD := yD_271 :: yD270
theorem yk_271 : ychk yKD (yct yCT0 yD270) xMT xFT yEX xm202 yD_271.2.1 yD_271.2.2.1 400 = true := by decide +kernel
-- IceBoatsModel.hears
def yD_272 : YD := (201, ([(1, 30, 0), (0, 0, 0)], [], false, [(some (.inr (0, [])), []), (some (.inr (1, [])), [])]), [(51, [(0, 1, (1, 30, 0)), (1, 1, (0, 0, 0)), (2, 1, (0, -2147483648, 2147483647)), (3, 1, (0, 0, 39)), (4, 1, (0, 0, 40))], [(0, 6, (0, 0, 999)), (0, 36, (0, 1, 40)), (0, 42, (1, 63, 0))], [(-1, [(1, -1), (6, 1)]), (-1, [(3, -1), (6, 1)])], (81, [(4, -2)])), (51, [(0, 1, (1, 30, 0)), (1, 1, (0, 0, 0)), (2, 1, (0, 0, 0)), (3, 1, (0, -9, -9)), (4, 1, (0, 0, 40))], [(0, 36, (0, 0, 40))], [(-1, [(3, -1), (5, 1)])], (81, [(4, -2)])), (8, [(0, 1, (1, 30, 0)), (1, 1, (0, 0, 0)), (2, 1, (0, -2147483648, 2147483647)), (3, 1, (0, 0, 39)), (4, 1, (0, 1, 40))], [(0, 6, (0, 0, 999)), (0, 36, (0, 1, 40)), (0, 42, (1, 63, 0))], [(-1, [(1, -1), (6, 1)]), (-1, [(3, -1), (6, 1)])], (163, [(4, -2)])), (8, [(0, 1, (1, 30, 0)), (1, 1, (0, 0, 0)), (2, 1, (0, 0, 0)), (3, 1, (0, -9, -9)), (4, 1, (0, 0, 40))], [], [], (163, [(4, -2)]))], 400)
def yD272 : List YD := yD_272 :: yD271
theorem yk_272 : ychk yKD (yct yCT0 yD271) xMT xFT yEX xm201 yD_272.2.1 yD_272.2.2.1 400 = true := by decide +kernel
-- IceBoatsModel.nearer
def yD_273 : YD := (204, ([(1, 30, 0), (0, 0, 1), (0, 0, 63)], [], true, [(some (.inl (0, 0, 4)), [])]), [(13, [(0, 1, (1, 30, 0)), (1, 1, (0, 0, 1)), (2, 1, (0, 0, 63)), (3, 1, (0, 0, 63)), (4, 1, (0, 1, 5))], [(0, 23, (1, 46, 0))], [], (11, [(4, -2)]))], 400)
def yD273 : List YD := yD_273 :: yD272
theorem yk_273 : ychk yKD (yct yCT0 yD272) xMT xFT yEX xm204 yD_273.2.1 yD_273.2.2.1 400 = true := by decide +kernel
-- IceBoatsModel.keepsFar
def yD_274 : YD := (203, ([(1, 30, 0), (0, 0, 1), (0, 0, 0)], [], false, [(none, [])]), [(18, [(0, 1, (1, 30, 0)), (1, 1, (0, 0, 1)), (2, 1, (0, 0, 0)), (3, 1, (0, -2147483648, 2147483647)), (4, 1, (2, 0, 0)), (6, 1, (0, 0, 64))], [], [], (8579, [(5, -132)])), (58, [(0, 1, (1, 30, 0)), (1, 1, (0, 0, 1)), (2, 1, (0, 0, 0)), (3, 1, (0, -2147483648, 2147483647)), (4, 1, (2, 0, 0)), (6, 1, (0, 0, 63)), (7, 1, (0, 0, 64))], [], [], (8577, [(5, -132), (6, -2)]))], 400)
def yD274 : List YD := yD_274 :: yD273
theorem yk_274 : ychk yKD (yct yCT0 yD273) xMT xFT yEX xm203 yD_274.2.1 yD_274.2.2.1 400 = true := by decide +kernel
-- IceBoatsModel.takes
def yD_275 : YD := (202, ([(1, 30, 0), (0, 0, 1), (0, 0, 0)], [], false, [(none, [])]), [], 400)
def yD275 : List YD := yD_275 :: yD274
theorem yk_275 : ychk yKD (yct yCT0 yD274) xMT xFT yEX xm202 yD_275.2.1 yD_275.2.2.1 400 = true := by decide +kernel
-- IceBoatsModel.keepsFar
def yD_276 : YD := (203, ([(1, 30, 0), (0, 0, 1), (0, 0, 1)], [], false, [(none, [])]), [(18, [(0, 1, (1, 30, 0)), (1, 1, (0, 0, 1)), (2, 1, (0, 0, 1)), (3, 1, (0, -2147483648, 2147483647)), (4, 1, (2, 0, 0)), (6, 1, (0, 0, 64))], [], [], (8579, [(5, -132)])), (58, [(0, 1, (1, 30, 0)), (1, 1, (0, 0, 1)), (2, 1, (0, 0, 1)), (3, 1, (0, -2147483648, 2147483647)), (4, 1, (2, 0, 0)), (6, 1, (0, 0, 63)), (7, 1, (0, 0, 64))], [], [], (8577, [(5, -132), (6, -2)]))], 400)
def yD276 : List YD := yD_276 :: yD275
theorem yk_276 : ychk yKD (yct yCT0 yD275) xMT xFT yEX xm203 yD_276.2.1 yD_276.2.2.1 400 = true := by decide +kernel
-- IceBoatsModel.takes
def yD_277 : YD := (202, ([(1, 30, 0), (0, 0, 1), (0, 0, 1)], [], false, [(none, [])]), [], 400)
def yD277 : List YD := yD_277 :: yD276
theorem yk_277 : ychk yKD (yct yCT0 yD276) xMT xFT yEX xm202 yD_277.2.1 yD_277.2.2.1 400 = true := by decide +kernel
-- IceBoatsModel.keepsFar
def yD_278 : YD := (203, ([(1, 30, 0), (0, 0, 1), (0, 0, 3)], [], false, [(none, [])]), [(18, [(0, 1, (1, 30, 0)), (1, 1, (0, 0, 1)), (2, 1, (0, 0, 3)), (3, 1, (0, -2147483648, 2147483647)), (4, 1, (2, 0, 0)), (6, 1, (0, 0, 64))], [], [], (8579, [(5, -132)])), (58, [(0, 1, (1, 30, 0)), (1, 1, (0, 0, 1)), (2, 1, (0, 0, 3)), (3, 1, (0, -2147483648, 2147483647)), (4, 1, (2, 0, 0)), (6, 1, (0, 0, 63)), (7, 1, (0, 0, 64))], [], [], (8577, [(5, -132), (6, -2)]))], 400)
def yD278 : List YD := yD_278 :: yD277
theorem yk_278 : ychk yKD (yct yCT0 yD277) xMT xFT yEX xm203 yD_278.2.1 yD_278.2.2.1 400 = true := by decide +kernel
-- IceBoatsModel.takes
def yD_279 : YD := (202, ([(1, 30, 0), (0, 0, 1), (0, 0, 3)], [], false, [(none, [])]), [], 400)
def yD279 : List YD := yD_279 :: yD278
theorem yk_279 : ychk yKD (yct yCT0 yD278) xMT xFT yEX xm202 yD_279.2.1 yD_279.2.2.1 400 = true := by decide +kernel
-- IceBoatsModel.keepsFar
def yD_280 : YD := (203, ([(1, 30, 0), (0, 0, 1), (0, 0, 5)], [], false, [(none, [])]), [(18, [(0, 1, (1, 30, 0)), (1, 1, (0, 0, 1)), (2, 1, (0, 0, 5)), (3, 1, (0, -2147483648, 2147483647)), (4, 1, (2, 0, 0)), (6, 1, (0, 0, 64))], [], [], (8579, [(5, -132)])), (58, [(0, 1, (1, 30, 0)), (1, 1, (0, 0, 1)), (2, 1, (0, 0, 5)), (3, 1, (0, -2147483648, 2147483647)), (4, 1, (2, 0, 0)), (6, 1, (0, 0, 63)), (7, 1, (0, 0, 64))], [], [], (8577, [(5, -132), (6, -2)]))], 400)
def yD280 : List YD := yD_280 :: yD279
theorem yk_280 : ychk yKD (yct yCT0 yD279) xMT xFT yEX xm203 yD_280.2.1 yD_280.2.2.1 400 = true := by decide +kernel
-- IceBoatsModel.takes
def yD_281 : YD := (202, ([(1, 30, 0), (0, 0, 1), (0, 0, 5)], [], false, [(none, [])]), [], 400)
def yD281 : List YD := yD_281 :: yD280
theorem yk_281 : ychk yKD (yct yCT0 yD280) xMT xFT yEX xm202 yD_281.2.1 yD_281.2.2.1 400 = true := by decide +kernel
-- IceBoatsModel.keepsFar
def yD_282 : YD := (203, ([(1, 30, 0), (0, 0, 1), (0, 0, 6)], [], false, [(none, [])]), [(18, [(0, 1, (1, 30, 0)), (1, 1, (0, 0, 1)), (2, 1, (0, 0, 6)), (3, 1, (0, -2147483648, 2147483647)), (4, 1, (2, 0, 0)), (6, 1, (0, 0, 64))], [], [], (8579, [(5, -132)])), (58, [(0, 1, (1, 30, 0)), (1, 1, (0, 0, 1)), (2, 1, (0, 0, 6)), (3, 1, (0, -2147483648, 2147483647)), (4, 1, (2, 0, 0)), (6, 1, (0, 0, 63)), (7, 1, (0, 0, 64))], [], [], (8577, [(5, -132), (6, -2)]))], 400)
def yD282 : List YD := yD_282 :: yD281
theorem yk_282 : ychk yKD (yct yCT0 yD281) xMT xFT yEX xm203 yD_282.2.1 yD_282.2.2.1 400 = true := by decide +kernel
-- IceBoatsModel.takes
def yD_283 : YD := (202, ([(1, 30, 0), (0, 0, 1), (0, 0, 6)], [], false, [(none, [])]), [], 400)
def yD283 : List YD := yD_283 :: yD282
theorem yk_283 : ychk yKD (yct yCT0 yD282) xMT xFT yEX xm202 yD_283.2.1 yD_283.2.2.1 400 = true := by decide +kernel
-- IceBoatsModel.keepsFar
def yD_284 : YD := (203, ([(1, 30, 0), (0, 0, 1), (0, 0, 7)], [], false, [(none, [])]), [(18, [(0, 1, (1, 30, 0)), (1, 1, (0, 0, 1)), (2, 1, (0, 0, 7)), (3, 1, (0, -2147483648, 2147483647)), (4, 1, (2, 0, 0)), (6, 1, (0, 0, 64))], [], [], (8579, [(5, -132)])), (58, [(0, 1, (1, 30, 0)), (1, 1, (0, 0, 1)), (2, 1, (0, 0, 7)), (3, 1, (0, -2147483648, 2147483647)), (4, 1, (2, 0, 0)), (6, 1, (0, 0, 63)), (7, 1, (0, 0, 64))], [], [], (8577, [(5, -132), (6, -2)]))], 400)
def yD284 : List YD := yD_284 :: yD283
theorem yk_284 : ychk yKD (yct yCT0 yD283) xMT xFT yEX xm203 yD_284.2.1 yD_284.2.2.1 400 = true := by decide +kernel
-- IceBoatsModel.takes
def yD_285 : YD := (202, ([(1, 30, 0), (0, 0, 1), (0, 0, 7)], [], false, [(none, [])]), [], 400)
def yD285 : List YD := yD_285 :: yD284
theorem yk_285 : ychk yKD (yct yCT0 yD284) xMT xFT yEX xm202 yD_285.2.1 yD_285.2.2.1 400 = true := by decide +kernel
-- IceBoatsModel.keepsFar
def yD_286 : YD := (203, ([(1, 30, 0), (0, 0, 1), (0, 0, 9)], [], false, [(none, [])]), [(18, [(0, 1, (1, 30, 0)), (1, 1, (0, 0, 1)), (2, 1, (0, 0, 9)), (3, 1, (0, -2147483648, 2147483647)), (4, 1, (2, 0, 0)), (6, 1, (0, 0, 64))], [], [], (8579, [(5, -132)])), (58, [(0, 1, (1, 30, 0)), (1, 1, (0, 0, 1)), (2, 1, (0, 0, 9)), (3, 1, (0, -2147483648, 2147483647)), (4, 1, (2, 0, 0)), (6, 1, (0, 0, 63)), (7, 1, (0, 0, 64))], [], [], (8577, [(5, -132), (6, -2)]))], 400)
def yD286 : List YD := yD_286 :: yD285
theorem yk_286 : ychk yKD (yct yCT0 yD285) xMT xFT yEX xm203 yD_286.2.1 yD_286.2.2.1 400 = true := by decide +kernel
-- IceBoatsModel.takes
def yD_287 : YD := (202, ([(1, 30, 0), (0, 0, 1), (0, 0, 9)], [], false, [(none, [])]), [], 400)
def yD287 : List YD := yD_287 :: yD286
theorem yk_287 : ychk yKD (yct yCT0 yD286) xMT xFT yEX xm202 yD_287.2.1 yD_287.2.2.1 400 = true := by decide +kernel
-- IceBoatsModel.keepsFar
def yD_288 : YD := (203, ([(1, 30, 0), (0, 0, 1), (0, 0, 13)], [], false, [(none, [])]), [(18, [(0, 1, (1, 30, 0)), (1, 1, (0, 0, 1)), (2, 1, (0, 0, 13)), (3, 1, (0, -2147483648, 2147483647)), (4, 1, (2, 0, 0)), (6, 1, (0, 0, 64))], [], [], (8579, [(5, -132)])), (58, [(0, 1, (1, 30, 0)), (1, 1, (0, 0, 1)), (2, 1, (0, 0, 13)), (3, 1, (0, -2147483648, 2147483647)), (4, 1, (2, 0, 0)), (6, 1, (0, 0, 63)), (7, 1, (0, 0, 64))], [], [], (8577, [(5, -132), (6, -2)]))], 400)
def yD288 : List YD := yD_288 :: yD287
theorem yk_288 : ychk yKD (yct yCT0 yD287) xMT xFT yEX xm203 yD_288.2.1 yD_288.2.2.1 400 = true := by decide +kernel
-- IceBoatsModel.takes
def yD_289 : YD := (202, ([(1, 30, 0), (0, 0, 1), (0, 0, 13)], [], false, [(none, [])]), [], 400)
def yD289 : List YD := yD_289 :: yD288
theorem yk_289 : ychk yKD (yct yCT0 yD288) xMT xFT yEX xm202 yD_289.2.1 yD_289.2.2.1 400 = true := by decide +kernel
-- IceBoatsModel.keepsFar
def yD_290 : YD := (203, ([(1, 30, 0), (0, 0, 1), (0, 0, 14)], [], false, [(none, [])]), [(18, [(0, 1, (1, 30, 0)), (1, 1, (0, 0, 1)), (2, 1, (0, 0, 14)), (3, 1, (0, -2147483648, 2147483647)), (4, 1, (2, 0, 0)), (6, 1, (0, 0, 64))], [], [], (8579, [(5, -132)])), (58, [(0, 1, (1, 30, 0)), (1, 1, (0, 0, 1)), (2, 1, (0, 0, 14)), (3, 1, (0, -2147483648, 2147483647)), (4, 1, (2, 0, 0)), (6, 1, (0, 0, 63)), (7, 1, (0, 0, 64))], [], [], (8577, [(5, -132), (6, -2)]))], 400)
def yD290 : List YD := yD_290 :: yD289
theorem yk_290 : ychk yKD (yct yCT0 yD289) xMT xFT yEX xm203 yD_290.2.1 yD_290.2.2.1 400 = true := by decide +kernel
-- IceBoatsModel.takes
def yD_291 : YD := (202, ([(1, 30, 0), (0, 0, 1), (0, 0, 14)], [], false, [(none, [])]), [], 400)
def yD291 : List YD := yD_291 :: yD290
theorem yk_291 : ychk yKD (yct yCT0 yD290) xMT xFT yEX xm202 yD_291.2.1 yD_291.2.2.1 400 = true := by decide +kernel
-- IceBoatsModel.keepsFar
def yD_292 : YD := (203, ([(1, 30, 0), (0, 0, 1), (0, 0, 15)], [], false, [(none, [])]), [(18, [(0, 1, (1, 30, 0)), (1, 1, (0, 0, 1)), (2, 1, (0, 0, 15)), (3, 1, (0, -2147483648, 2147483647)), (4, 1, (2, 0, 0)), (6, 1, (0, 0, 64))], [], [], (8579, [(5, -132)])), (58, [(0, 1, (1, 30, 0)), (1, 1, (0, 0, 1)), (2, 1, (0, 0, 15)), (3, 1, (0, -2147483648, 2147483647)), (4, 1, (2, 0, 0)), (6, 1, (0, 0, 63)), (7, 1, (0, 0, 64))], [], [], (8577, [(5, -132), (6, -2)]))], 400)
def yD292 : List YD := yD_292 :: yD291
theorem yk_292 : ychk yKD (yct yCT0 yD291) xMT xFT yEX xm203 yD_292.2.1 yD_292.2.2.1 400 = true := by decide +kernel
-- IceBoatsModel.takes
def yD_293 : YD := (202, ([(1, 30, 0), (0, 0, 1), (0, 0, 15)], [], false, [(none, [])]), [], 400)
def yD293 : List YD := yD_293 :: yD292
theorem yk_293 : ychk yKD (yct yCT0 yD292) xMT xFT yEX xm202 yD_293.2.1 yD_293.2.2.1 400 = true := by decide +kernel
-- IceBoatsModel.keepsFar
def yD_294 : YD := (203, ([(1, 30, 0), (0, 0, 1), (0, 0, 16)], [], false, [(none, [])]), [(18, [(0, 1, (1, 30, 0)), (1, 1, (0, 0, 1)), (2, 1, (0, 0, 16)), (3, 1, (0, -2147483648, 2147483647)), (4, 1, (2, 0, 0)), (6, 1, (0, 0, 64))], [], [], (8579, [(5, -132)])), (58, [(0, 1, (1, 30, 0)), (1, 1, (0, 0, 1)), (2, 1, (0, 0, 16)), (3, 1, (0, -2147483648, 2147483647)), (4, 1, (2, 0, 0)), (6, 1, (0, 0, 63)), (7, 1, (0, 0, 64))], [], [], (8577, [(5, -132), (6, -2)]))], 400)
def yD294 : List YD := yD_294 :: yD293
theorem yk_294 : ychk yKD (yct yCT0 yD293) xMT xFT yEX xm203 yD_294.2.1 yD_294.2.2.1 400 = true := by decide +kernel
-- IceBoatsModel.takes
def yD_295 : YD := (202, ([(1, 30, 0), (0, 0, 1), (0, 0, 16)], [], false, [(none, [])]), [], 400)
def yD295 : List YD := yD_295 :: yD294
theorem yk_295 : ychk yKD (yct yCT0 yD294) xMT xFT yEX xm202 yD_295.2.1 yD_295.2.2.1 400 = true := by decide +kernel
-- IceBoatsModel.keepsFar
def yD_296 : YD := (203, ([(1, 30, 0), (0, 0, 1), (0, 0, 20)], [], false, [(none, [])]), [(18, [(0, 1, (1, 30, 0)), (1, 1, (0, 0, 1)), (2, 1, (0, 0, 20)), (3, 1, (0, -2147483648, 2147483647)), (4, 1, (2, 0, 0)), (6, 1, (0, 0, 64))], [], [], (8579, [(5, -132)])), (58, [(0, 1, (1, 30, 0)), (1, 1, (0, 0, 1)), (2, 1, (0, 0, 20)), (3, 1, (0, -2147483648, 2147483647)), (4, 1, (2, 0, 0)), (6, 1, (0, 0, 63)), (7, 1, (0, 0, 64))], [], [], (8577, [(5, -132), (6, -2)]))], 400)
def yD296 : List YD := yD_296 :: yD295
theorem yk_296 : ychk yKD (yct yCT0 yD295) xMT xFT yEX xm203 yD_296.2.1 yD_296.2.2.1 400 = true := by decide +kernel
-- IceBoatsModel.takes
def yD_297 : YD := (202, ([(1, 30, 0), (0, 0, 1), (0, 0, 20)], [], false, [(none, [])]), [], 400)
def yD297 : List YD := yD_297 :: yD296
theorem yk_297 : ychk yKD (yct yCT0 yD296) xMT xFT yEX xm202 yD_297.2.1 yD_297.2.2.1 400 = true := by decide +kernel
-- IceBoatsModel.keepsFar
def yD_298 : YD := (203, ([(1, 30, 0), (0, 0, 1), (0, 0, 21)], [], false, [(none, [])]), [(18, [(0, 1, (1, 30, 0)), (1, 1, (0, 0, 1)), (2, 1, (0, 0, 21)), (3, 1, (0, -2147483648, 2147483647)), (4, 1, (2, 0, 0)), (6, 1, (0, 0, 64))], [], [], (8579, [(5, -132)])), (58, [(0, 1, (1, 30, 0)), (1, 1, (0, 0, 1)), (2, 1, (0, 0, 21)), (3, 1, (0, -2147483648, 2147483647)), (4, 1, (2, 0, 0)), (6, 1, (0, 0, 63)), (7, 1, (0, 0, 64))], [], [], (8577, [(5, -132), (6, -2)]))], 400)
def yD298 : List YD := yD_298 :: yD297
theorem yk_298 : ychk yKD (yct yCT0 yD297) xMT xFT yEX xm203 yD_298.2.1 yD_298.2.2.1 400 = true := by decide +kernel
-- IceBoatsModel.takes
def yD_299 : YD := (202, ([(1, 30, 0), (0, 0, 1), (0, 0, 21)], [], false, [(none, [])]), [], 400)
def yD299 : List YD := yD_299 :: yD298
theorem yk_299 : ychk yKD (yct yCT0 yD298) xMT xFT yEX xm202 yD_299.2.1 yD_299.2.2.1 400 = true := by decide +kernel
-- IceBoatsModel.keepsFar
def yD_300 : YD := (203, ([(1, 30, 0), (0, 0, 1), (0, 0, 24)], [], false, [(none, [])]), [(18, [(0, 1, (1, 30, 0)), (1, 1, (0, 0, 1)), (2, 1, (0, 0, 24)), (3, 1, (0, -2147483648, 2147483647)), (4, 1, (2, 0, 0)), (6, 1, (0, 0, 64))], [], [], (8579, [(5, -132)])), (58, [(0, 1, (1, 30, 0)), (1, 1, (0, 0, 1)), (2, 1, (0, 0, 24)), (3, 1, (0, -2147483648, 2147483647)), (4, 1, (2, 0, 0)), (6, 1, (0, 0, 63)), (7, 1, (0, 0, 64))], [], [], (8577, [(5, -132), (6, -2)]))], 400)
def yD300 : List YD := yD_300 :: yD299
theorem yk_300 : ychk yKD (yct yCT0 yD299) xMT xFT yEX xm203 yD_300.2.1 yD_300.2.2.1 400 = true := by decide +kernel
-- IceBoatsModel.takes
def yD_301 : YD := (202, ([(1, 30, 0), (0, 0, 1), (0, 0, 24)], [], false, [(none, [])]), [], 400)
def yD301 : List YD := yD_301 :: yD300
theorem yk_301 : ychk yKD (yct yCT0 yD300) xMT xFT yEX xm202 yD_301.2.1 yD_301.2.2.1 400 = true := by decide +kernel
-- IceBoatsModel.keepsFar
def yD_302 : YD := (203, ([(1, 30, 0), (0, 0, 1), (0, 0, 36)], [], false, [(none, [])]), [(18, [(0, 1, (1, 30, 0)), (1, 1, (0, 0, 1)), (2, 1, (0, 0, 36)), (3, 1, (0, -2147483648, 2147483647)), (4, 1, (2, 0, 0)), (6, 1, (0, 0, 64))], [], [], (8579, [(5, -132)])), (58, [(0, 1, (1, 30, 0)), (1, 1, (0, 0, 1)), (2, 1, (0, 0, 36)), (3, 1, (0, -2147483648, 2147483647)), (4, 1, (2, 0, 0)), (6, 1, (0, 0, 63)), (7, 1, (0, 0, 64))], [], [], (8577, [(5, -132), (6, -2)]))], 400)
def yD302 : List YD := yD_302 :: yD301
theorem yk_302 : ychk yKD (yct yCT0 yD301) xMT xFT yEX xm203 yD_302.2.1 yD_302.2.2.1 400 = true := by decide +kernel
-- IceBoatsModel.takes
def yD_303 : YD := (202, ([(1, 30, 0), (0, 0, 1), (0, 0, 36)], [], false, [(none, [])]), [], 400)
def yD303 : List YD := yD_303 :: yD302
theorem yk_303 : ychk yKD (yct yCT0 yD302) xMT xFT yEX xm202 yD_303.2.1 yD_303.2.2.1 400 = true := by decide +kernel
-- IceBoatsModel.keepsFar
def yD_304 : YD := (203, ([(1, 30, 0), (0, 0, 1), (0, 0, 39)], [], false, [(none, [])]), [(18, [(0, 1, (1, 30, 0)), (1, 1, (0, 0, 1)), (2, 1, (0, 0, 39)), (3, 1, (0, -2147483648, 2147483647)), (4, 1, (2, 0, 0)), (6, 1, (0, 0, 64))], [], [], (8579, [(5, -132)])), (58, [(0, 1, (1, 30, 0)), (1, 1, (0, 0, 1)), (2, 1, (0, 0, 39)), (3, 1, (0, -2147483648, 2147483647)), (4, 1, (2, 0, 0)), (6, 1, (0, 0, 63)), (7, 1, (0, 0, 64))], [], [], (8577, [(5, -132), (6, -2)]))], 400)
def yD304 : List YD := yD_304 :: yD303
theorem yk_304 : ychk yKD (yct yCT0 yD303) xMT xFT yEX xm203 yD_304.2.1 yD_304.2.2.1 400 = true := by decide +kernel
-- IceBoatsModel.takes
def yD_305 : YD := (202, ([(1, 30, 0), (0, 0, 1), (0, 0, 39)], [], false, [(none, [])]), [], 400)
def yD305 : List YD := yD_305 :: yD304
theorem yk_305 : ychk yKD (yct yCT0 yD304) xMT xFT yEX xm202 yD_305.2.1 yD_305.2.2.1 400 = true := by decide +kernel
-- IceBoatsModel.hears
def yD_306 : YD := (201, ([(1, 30, 0), (0, 0, 1)], [], false, [(some (.inr (0, [])), []), (some (.inr (1, [])), [])]), [(51, [(0, 1, (1, 30, 0)), (1, 1, (0, 0, 1)), (2, 1, (0, -2147483648, 2147483647)), (3, 1, (0, 0, 39)), (4, 1, (0, 0, 40))], [(0, 6, (0, 0, 999)), (0, 36, (0, 1, 40)), (0, 42, (1, 63, 0))], [(-1, [(3, -1), (6, 1)])], (81, [(4, -2)])), (51, [(0, 1, (1, 30, 0)), (1, 1, (0, 0, 1)), (2, 1, (0, 0, 0)), (3, 1, (0, -9, -9)), (4, 1, (0, 0, 40))], [(0, 36, (0, 0, 40))], [(-1, [(3, -1), (5, 1)])], (81, [(4, -2)])), (8, [(0, 1, (1, 30, 0)), (1, 1, (0, 0, 1)), (2, 1, (0, -2147483648, 2147483647)), (3, 1, (0, 0, 39)), (4, 1, (0, 1, 40))], [(0, 6, (0, 0, 999)), (0, 36, (0, 1, 40)), (0, 42, (1, 63, 0))], [(-1, [(3, -1), (6, 1)])], (163, [(4, -2)])), (8, [(0, 1, (1, 30, 0)), (1, 1, (0, 0, 1)), (2, 1, (0, 0, 0)), (3, 1, (0, -9, -9)), (4, 1, (0, 0, 40))], [], [], (163, [(4, -2)]))], 400)
def yD306 : List YD := yD_306 :: yD305
theorem yk_306 : ychk yKD (yct yCT0 yD305) xMT xFT yEX xm201 yD_306.2.1 yD_306.2.2.1 400 = true := by decide +kernel
-- IceBoatsModel.nearer
def yD_307 : YD := (204, ([(1, 30, 0), (0, 0, 2), (0, 0, 63)], [], true, [(some (.inl (0, 0, 4)), [])]), [(13, [(0, 1, (1, 30, 0)), (1, 1, (0, 0, 2)), (2, 1, (0, 0, 63)), (3, 1, (0, 0, 63)), (4, 1, (0, 1, 5))], [(0, 23, (1, 46, 0))], [], (11, [(4, -2)]))], 400)
def yD307 : List YD := yD_307 :: yD306
theorem yk_307 : ychk yKD (yct yCT0 yD306) xMT xFT yEX xm204 yD_307.2.1 yD_307.2.2.1 400 = true := by decide +kernel
-- IceBoatsModel.keepsFar
def yD_308 : YD := (203, ([(1, 30, 0), (0, 0, 2), (0, 0, 0)], [], false, [(none, [])]), [(18, [(0, 1, (1, 30, 0)), (1, 1, (0, 0, 2)), (2, 1, (0, 0, 0)), (3, 1, (0, -2147483648, 2147483647)), (4, 1, (2, 0, 0)), (6, 1, (0, 0, 64))], [], [], (8579, [(5, -132)])), (58, [(0, 1, (1, 30, 0)), (1, 1, (0, 0, 2)), (2, 1, (0, 0, 0)), (3, 1, (0, -2147483648, 2147483647)), (4, 1, (2, 0, 0)), (6, 1, (0, 0, 63)), (7, 1, (0, 0, 64))], [], [], (8577, [(5, -132), (6, -2)]))], 400)
def yD308 : List YD := yD_308 :: yD307
theorem yk_308 : ychk yKD (yct yCT0 yD307) xMT xFT yEX xm203 yD_308.2.1 yD_308.2.2.1 400 = true := by decide +kernel
-- IceBoatsModel.takes
def yD_309 : YD := (202, ([(1, 30, 0), (0, 0, 2), (0, 0, 0)], [], false, [(none, [])]), [], 400)
def yD309 : List YD := yD_309 :: yD308
theorem yk_309 : ychk yKD (yct yCT0 yD308) xMT xFT yEX xm202 yD_309.2.1 yD_309.2.2.1 400 = true := by decide +kernel
-- IceBoatsModel.keepsFar
def yD_310 : YD := (203, ([(1, 30, 0), (0, 0, 2), (0, 0, 1)], [], false, [(none, [])]), [(18, [(0, 1, (1, 30, 0)), (1, 1, (0, 0, 2)), (2, 1, (0, 0, 1)), (3, 1, (0, -2147483648, 2147483647)), (4, 1, (2, 0, 0)), (6, 1, (0, 0, 64))], [], [], (8579, [(5, -132)])), (58, [(0, 1, (1, 30, 0)), (1, 1, (0, 0, 2)), (2, 1, (0, 0, 1)), (3, 1, (0, -2147483648, 2147483647)), (4, 1, (2, 0, 0)), (6, 1, (0, 0, 63)), (7, 1, (0, 0, 64))], [], [], (8577, [(5, -132), (6, -2)]))], 400)
def yD310 : List YD := yD_310 :: yD309
theorem yk_310 : ychk yKD (yct yCT0 yD309) xMT xFT yEX xm203 yD_310.2.1 yD_310.2.2.1 400 = true := by decide +kernel
-- IceBoatsModel.takes
def yD_311 : YD := (202, ([(1, 30, 0), (0, 0, 2), (0, 0, 1)], [], false, [(none, [])]), [], 400)
def yD311 : List YD := yD_311 :: yD310
theorem yk_311 : ychk yKD (yct yCT0 yD310) xMT xFT yEX xm202 yD_311.2.1 yD_311.2.2.1 400 = true := by decide +kernel
-- IceBoatsModel.keepsFar
def yD_312 : YD := (203, ([(1, 30, 0), (0, 0, 2), (0, 0, 3)], [], false, [(none, [])]), [(18, [(0, 1, (1, 30, 0)), (1, 1, (0, 0, 2)), (2, 1, (0, 0, 3)), (3, 1, (0, -2147483648, 2147483647)), (4, 1, (2, 0, 0)), (6, 1, (0, 0, 64))], [], [], (8579, [(5, -132)])), (58, [(0, 1, (1, 30, 0)), (1, 1, (0, 0, 2)), (2, 1, (0, 0, 3)), (3, 1, (0, -2147483648, 2147483647)), (4, 1, (2, 0, 0)), (6, 1, (0, 0, 63)), (7, 1, (0, 0, 64))], [], [], (8577, [(5, -132), (6, -2)]))], 400)
def yD312 : List YD := yD_312 :: yD311
theorem yk_312 : ychk yKD (yct yCT0 yD311) xMT xFT yEX xm203 yD_312.2.1 yD_312.2.2.1 400 = true := by decide +kernel
-- IceBoatsModel.takes
def yD_313 : YD := (202, ([(1, 30, 0), (0, 0, 2), (0, 0, 3)], [], false, [(none, [])]), [], 400)
def yD313 : List YD := yD_313 :: yD312
theorem yk_313 : ychk yKD (yct yCT0 yD312) xMT xFT yEX xm202 yD_313.2.1 yD_313.2.2.1 400 = true := by decide +kernel
-- IceBoatsModel.keepsFar
def yD_314 : YD := (203, ([(1, 30, 0), (0, 0, 2), (0, 0, 5)], [], false, [(none, [])]), [(18, [(0, 1, (1, 30, 0)), (1, 1, (0, 0, 2)), (2, 1, (0, 0, 5)), (3, 1, (0, -2147483648, 2147483647)), (4, 1, (2, 0, 0)), (6, 1, (0, 0, 64))], [], [], (8579, [(5, -132)])), (58, [(0, 1, (1, 30, 0)), (1, 1, (0, 0, 2)), (2, 1, (0, 0, 5)), (3, 1, (0, -2147483648, 2147483647)), (4, 1, (2, 0, 0)), (6, 1, (0, 0, 63)), (7, 1, (0, 0, 64))], [], [], (8577, [(5, -132), (6, -2)]))], 400)
def yD314 : List YD := yD_314 :: yD313
theorem yk_314 : ychk yKD (yct yCT0 yD313) xMT xFT yEX xm203 yD_314.2.1 yD_314.2.2.1 400 = true := by decide +kernel
-- IceBoatsModel.takes
def yD_315 : YD := (202, ([(1, 30, 0), (0, 0, 2), (0, 0, 5)], [], false, [(none, [])]), [], 400)
def yD315 : List YD := yD_315 :: yD314
theorem yk_315 : ychk yKD (yct yCT0 yD314) xMT xFT yEX xm202 yD_315.2.1 yD_315.2.2.1 400 = true := by decide +kernel
-- IceBoatsModel.keepsFar
def yD_316 : YD := (203, ([(1, 30, 0), (0, 0, 2), (0, 0, 6)], [], false, [(none, [])]), [(18, [(0, 1, (1, 30, 0)), (1, 1, (0, 0, 2)), (2, 1, (0, 0, 6)), (3, 1, (0, -2147483648, 2147483647)), (4, 1, (2, 0, 0)), (6, 1, (0, 0, 64))], [], [], (8579, [(5, -132)])), (58, [(0, 1, (1, 30, 0)), (1, 1, (0, 0, 2)), (2, 1, (0, 0, 6)), (3, 1, (0, -2147483648, 2147483647)), (4, 1, (2, 0, 0)), (6, 1, (0, 0, 63)), (7, 1, (0, 0, 64))], [], [], (8577, [(5, -132), (6, -2)]))], 400)
def yD316 : List YD := yD_316 :: yD315
theorem yk_316 : ychk yKD (yct yCT0 yD315) xMT xFT yEX xm203 yD_316.2.1 yD_316.2.2.1 400 = true := by decide +kernel
-- IceBoatsModel.takes
def yD_317 : YD := (202, ([(1, 30, 0), (0, 0, 2), (0, 0, 6)], [], false, [(none, [])]), [], 400)
def yD317 : List YD := yD_317 :: yD316
theorem yk_317 : ychk yKD (yct yCT0 yD316) xMT xFT yEX xm202 yD_317.2.1 yD_317.2.2.1 400 = true := by decide +kernel
-- IceBoatsModel.keepsFar
def yD_318 : YD := (203, ([(1, 30, 0), (0, 0, 2), (0, 0, 7)], [], false, [(none, [])]), [(18, [(0, 1, (1, 30, 0)), (1, 1, (0, 0, 2)), (2, 1, (0, 0, 7)), (3, 1, (0, -2147483648, 2147483647)), (4, 1, (2, 0, 0)), (6, 1, (0, 0, 64))], [], [], (8579, [(5, -132)])), (58, [(0, 1, (1, 30, 0)), (1, 1, (0, 0, 2)), (2, 1, (0, 0, 7)), (3, 1, (0, -2147483648, 2147483647)), (4, 1, (2, 0, 0)), (6, 1, (0, 0, 63)), (7, 1, (0, 0, 64))], [], [], (8577, [(5, -132), (6, -2)]))], 400)
def yD318 : List YD := yD_318 :: yD317
theorem yk_318 : ychk yKD (yct yCT0 yD317) xMT xFT yEX xm203 yD_318.2.1 yD_318.2.2.1 400 = true := by decide +kernel
-- IceBoatsModel.takes
def yD_319 : YD := (202, ([(1, 30, 0), (0, 0, 2), (0, 0, 7)], [], false, [(none, [])]), [], 400)
def yD319 : List YD := yD_319 :: yD318
theorem yk_319 : ychk yKD (yct yCT0 yD318) xMT xFT yEX xm202 yD_319.2.1 yD_319.2.2.1 400 = true := by decide +kernel
-- IceBoatsModel.keepsFar
def yD_320 : YD := (203, ([(1, 30, 0), (0, 0, 2), (0, 0, 9)], [], false, [(none, [])]), [(18, [(0, 1, (1, 30, 0)), (1, 1, (0, 0, 2)), (2, 1, (0, 0, 9)), (3, 1, (0, -2147483648, 2147483647)), (4, 1, (2, 0, 0)), (6, 1, (0, 0, 64))], [], [], (8579, [(5, -132)])), (58, [(0, 1, (1, 30, 0)), (1, 1, (0, 0, 2)), (2, 1, (0, 0, 9)), (3, 1, (0, -2147483648, 2147483647)), (4, 1, (2, 0, 0)), (6, 1, (0, 0, 63)), (7, 1, (0, 0, 64))], [], [], (8577, [(5, -132), (6, -2)]))], 400)
def yD320 : List YD := yD_320 :: yD319
theorem yk_320 : ychk yKD (yct yCT0 yD319) xMT xFT yEX xm203 yD_320.2.1 yD_320.2.2.1 400 = true := by decide +kernel
-- IceBoatsModel.takes
def yD_321 : YD := (202, ([(1, 30, 0), (0, 0, 2), (0, 0, 9)], [], false, [(none, [])]), [], 400)
def yD321 : List YD := yD_321 :: yD320
theorem yk_321 : ychk yKD (yct yCT0 yD320) xMT xFT yEX xm202 yD_321.2.1 yD_321.2.2.1 400 = true := by decide +kernel
-- IceBoatsModel.keepsFar
def yD_322 : YD := (203, ([(1, 30, 0), (0, 0, 2), (0, 0, 13)], [], false, [(none, [])]), [(18, [(0, 1, (1, 30, 0)), (1, 1, (0, 0, 2)), (2, 1, (0, 0, 13)), (3, 1, (0, -2147483648, 2147483647)), (4, 1, (2, 0, 0)), (6, 1, (0, 0, 64))], [], [], (8579, [(5, -132)])), (58, [(0, 1, (1, 30, 0)), (1, 1, (0, 0, 2)), (2, 1, (0, 0, 13)), (3, 1, (0, -2147483648, 2147483647)), (4, 1, (2, 0, 0)), (6, 1, (0, 0, 63)), (7, 1, (0, 0, 64))], [], [], (8577, [(5, -132), (6, -2)]))], 400)
def yD322 : List YD := yD_322 :: yD321
theorem yk_322 : ychk yKD (yct yCT0 yD321) xMT xFT yEX xm203 yD_322.2.1 yD_322.2.2.1 400 = true := by decide +kernel
-- IceBoatsModel.takes
def yD_323 : YD := (202, ([(1, 30, 0), (0, 0, 2), (0, 0, 13)], [], false, [(none, [])]), [], 400)
def yD323 : List YD := yD_323 :: yD322
theorem yk_323 : ychk yKD (yct yCT0 yD322) xMT xFT yEX xm202 yD_323.2.1 yD_323.2.2.1 400 = true := by decide +kernel
-- IceBoatsModel.keepsFar
def yD_324 : YD := (203, ([(1, 30, 0), (0, 0, 2), (0, 0, 14)], [], false, [(none, [])]), [(18, [(0, 1, (1, 30, 0)), (1, 1, (0, 0, 2)), (2, 1, (0, 0, 14)), (3, 1, (0, -2147483648, 2147483647)), (4, 1, (2, 0, 0)), (6, 1, (0, 0, 64))], [], [], (8579, [(5, -132)])), (58, [(0, 1, (1, 30, 0)), (1, 1, (0, 0, 2)), (2, 1, (0, 0, 14)), (3, 1, (0, -2147483648, 2147483647)), (4, 1, (2, 0, 0)), (6, 1, (0, 0, 63)), (7, 1, (0, 0, 64))], [], [], (8577, [(5, -132), (6, -2)]))], 400)
def yD324 : List YD := yD_324 :: yD323
theorem yk_324 : ychk yKD (yct yCT0 yD323) xMT xFT yEX xm203 yD_324.2.1 yD_324.2.2.1 400 = true := by decide +kernel
-- IceBoatsModel.takes
def yD_325 : YD := (202, ([(1, 30, 0), (0, 0, 2), (0, 0, 14)], [], false, [(none, [])]), [], 400)
def yD325 : List YD := yD_325 :: yD324
theorem yk_325 : ychk yKD (yct yCT0 yD324) xMT xFT yEX xm202 yD_325.2.1 yD_325.2.2.1 400 = true := by decide +kernel
-- IceBoatsModel.keepsFar
def yD_326 : YD := (203, ([(1, 30, 0), (0, 0, 2), (0, 0, 15)], [], false, [(none, [])]), [(18, [(0, 1, (1, 30, 0)), (1, 1, (0, 0, 2)), (2, 1, (0, 0, 15)), (3, 1, (0, -2147483648, 2147483647)), (4, 1, (2, 0, 0)), (6, 1, (0, 0, 64))], [], [], (8579, [(5, -132)])), (58, [(0, 1, (1, 30, 0)), (1, 1, (0, 0, 2)), (2, 1, (0, 0, 15)), (3, 1, (0, -2147483648, 2147483647)), (4, 1, (2, 0, 0)), (6, 1, (0, 0, 63)), (7, 1, (0, 0, 64))], [], [], (8577, [(5, -132), (6, -2)]))], 400)
def yD326 : List YD := yD_326 :: yD325
theorem yk_326 : ychk yKD (yct yCT0 yD325) xMT xFT yEX xm203 yD_326.2.1 yD_326.2.2.1 400 = true := by decide +kernel
-- IceBoatsModel.takes
def yD_327 : YD := (202, ([(1, 30, 0), (0, 0, 2), (0, 0, 15)], [], false, [(none, [])]), [], 400)
def yD327 : List YD := yD_327 :: yD326
theorem yk_327 : ychk yKD (yct yCT0 yD326) xMT xFT yEX xm202 yD_327.2.1 yD_327.2.2.1 400 = true := by decide +kernel
-- IceBoatsModel.keepsFar
def yD_328 : YD := (203, ([(1, 30, 0), (0, 0, 2), (0, 0, 16)], [], false, [(none, [])]), [(18, [(0, 1, (1, 30, 0)), (1, 1, (0, 0, 2)), (2, 1, (0, 0, 16)), (3, 1, (0, -2147483648, 2147483647)), (4, 1, (2, 0, 0)), (6, 1, (0, 0, 64))], [], [], (8579, [(5, -132)])), (58, [(0, 1, (1, 30, 0)), (1, 1, (0, 0, 2)), (2, 1, (0, 0, 16)), (3, 1, (0, -2147483648, 2147483647)), (4, 1, (2, 0, 0)), (6, 1, (0, 0, 63)), (7, 1, (0, 0, 64))], [], [], (8577, [(5, -132), (6, -2)]))], 400)
def yD328 : List YD := yD_328 :: yD327
theorem yk_328 : ychk yKD (yct yCT0 yD327) xMT xFT yEX xm203 yD_328.2.1 yD_328.2.2.1 400 = true := by decide +kernel
-- IceBoatsModel.takes
def yD_329 : YD := (202, ([(1, 30, 0), (0, 0, 2), (0, 0, 16)], [], false, [(none, [])]), [], 400)
def yD329 : List YD := yD_329 :: yD328
theorem yk_329 : ychk yKD (yct yCT0 yD328) xMT xFT yEX xm202 yD_329.2.1 yD_329.2.2.1 400 = true := by decide +kernel
-- IceBoatsModel.keepsFar
def yD_330 : YD := (203, ([(1, 30, 0), (0, 0, 2), (0, 0, 20)], [], false, [(none, [])]), [(18, [(0, 1, (1, 30, 0)), (1, 1, (0, 0, 2)), (2, 1, (0, 0, 20)), (3, 1, (0, -2147483648, 2147483647)), (4, 1, (2, 0, 0)), (6, 1, (0, 0, 64))], [], [], (8579, [(5, -132)])), (58, [(0, 1, (1, 30, 0)), (1, 1, (0, 0, 2)), (2, 1, (0, 0, 20)), (3, 1, (0, -2147483648, 2147483647)), (4, 1, (2, 0, 0)), (6, 1, (0, 0, 63)), (7, 1, (0, 0, 64))], [], [], (8577, [(5, -132), (6, -2)]))], 400)
def yD330 : List YD := yD_330 :: yD329
theorem yk_330 : ychk yKD (yct yCT0 yD329) xMT xFT yEX xm203 yD_330.2.1 yD_330.2.2.1 400 = true := by decide +kernel
-- IceBoatsModel.takes
def yD_331 : YD := (202, ([(1, 30, 0), (0, 0, 2), (0, 0, 20)], [], false, [(none, [])]), [], 400)
def yD331 : List YD := yD_331 :: yD330
theorem yk_331 : ychk yKD (yct yCT0 yD330) xMT xFT yEX xm202 yD_331.2.1 yD_331.2.2.1 400 = true := by decide +kernel
-- IceBoatsModel.keepsFar
def yD_332 : YD := (203, ([(1, 30, 0), (0, 0, 2), (0, 0, 21)], [], false, [(none, [])]), [(18, [(0, 1, (1, 30, 0)), (1, 1, (0, 0, 2)), (2, 1, (0, 0, 21)), (3, 1, (0, -2147483648, 2147483647)), (4, 1, (2, 0, 0)), (6, 1, (0, 0, 64))], [], [], (8579, [(5, -132)])), (58, [(0, 1, (1, 30, 0)), (1, 1, (0, 0, 2)), (2, 1, (0, 0, 21)), (3, 1, (0, -2147483648, 2147483647)), (4, 1, (2, 0, 0)), (6, 1, (0, 0, 63)), (7, 1, (0, 0, 64))], [], [], (8577, [(5, -132), (6, -2)]))], 400)
def yD332 : List YD := yD_332 :: yD331
theorem yk_332 : ychk yKD (yct yCT0 yD331) xMT xFT yEX xm203 yD_332.2.1 yD_332.2.2.1 400 = true := by decide +kernel
-- IceBoatsModel.takes
def yD_333 : YD := (202, ([(1, 30, 0), (0, 0, 2), (0, 0, 21)], [], false, [(none, [])]), [], 400)
def yD333 : List YD := yD_333 :: yD332
theorem yk_333 : ychk yKD (yct yCT0 yD332) xMT xFT yEX xm202 yD_333.2.1 yD_333.2.2.1 400 = true := by decide +kernel
-- IceBoatsModel.keepsFar
def yD_334 : YD := (203, ([(1, 30, 0), (0, 0, 2), (0, 0, 24)], [], false, [(none, [])]), [(18, [(0, 1, (1, 30, 0)), (1, 1, (0, 0, 2)), (2, 1, (0, 0, 24)), (3, 1, (0, -2147483648, 2147483647)), (4, 1, (2, 0, 0)), (6, 1, (0, 0, 64))], [], [], (8579, [(5, -132)])), (58, [(0, 1, (1, 30, 0)), (1, 1, (0, 0, 2)), (2, 1, (0, 0, 24)), (3, 1, (0, -2147483648, 2147483647)), (4, 1, (2, 0, 0)), (6, 1, (0, 0, 63)), (7, 1, (0, 0, 64))], [], [], (8577, [(5, -132), (6, -2)]))], 400)
def yD334 : List YD := yD_334 :: yD333
theorem yk_334 : ychk yKD (yct yCT0 yD333) xMT xFT yEX xm203 yD_334.2.1 yD_334.2.2.1 400 = true := by decide +kernel
-- IceBoatsModel.takes
def yD_335 : YD := (202, ([(1, 30, 0), (0, 0, 2), (0, 0, 24)], [], false, [(none, [])]), [], 400)
def yD335 : List YD := yD_335 :: yD334
theorem yk_335 : ychk yKD (yct yCT0 yD334) xMT xFT yEX xm202 yD_335.2.1 yD_335.2.2.1 400 = true := by decide +kernel
-- IceBoatsModel.keepsFar
def yD_336 : YD := (203, ([(1, 30, 0), (0, 0, 2), (0, 0, 36)], [], false, [(none, [])]), [(18, [(0, 1, (1, 30, 0)), (1, 1, (0, 0, 2)), (2, 1, (0, 0, 36)), (3, 1, (0, -2147483648, 2147483647)), (4, 1, (2, 0, 0)), (6, 1, (0, 0, 64))], [], [], (8579, [(5, -132)])), (58, [(0, 1, (1, 30, 0)), (1, 1, (0, 0, 2)), (2, 1, (0, 0, 36)), (3, 1, (0, -2147483648, 2147483647)), (4, 1, (2, 0, 0)), (6, 1, (0, 0, 63)), (7, 1, (0, 0, 64))], [], [], (8577, [(5, -132), (6, -2)]))], 400)
def yD336 : List YD := yD_336 :: yD335
theorem yk_336 : ychk yKD (yct yCT0 yD335) xMT xFT yEX xm203 yD_336.2.1 yD_336.2.2.1 400 = true := by decide +kernel
-- IceBoatsModel.takes
def yD_337 : YD := (202, ([(1, 30, 0), (0, 0, 2), (0, 0, 36)], [], false, [(none, [])]), [], 400)
def yD337 : List YD := yD_337 :: yD336
theorem yk_337 : ychk yKD (yct yCT0 yD336) xMT xFT yEX xm202 yD_337.2.1 yD_337.2.2.1 400 = true := by decide +kernel
-- IceBoatsModel.keepsFar
def yD_338 : YD := (203, ([(1, 30, 0), (0, 0, 2), (0, 0, 39)], [], false, [(none, [])]), [(18, [(0, 1, (1, 30, 0)), (1, 1, (0, 0, 2)), (2, 1, (0, 0, 39)), (3, 1, (0, -2147483648, 2147483647)), (4, 1, (2, 0, 0)), (6, 1, (0, 0, 64))], [], [], (8579, [(5, -132)])), (58, [(0, 1, (1, 30, 0)), (1, 1, (0, 0, 2)), (2, 1, (0, 0, 39)), (3, 1, (0, -2147483648, 2147483647)), (4, 1, (2, 0, 0)), (6, 1, (0, 0, 63)), (7, 1, (0, 0, 64))], [], [], (8577, [(5, -132), (6, -2)]))], 400)
def yD338 : List YD := yD_338 :: yD337
theorem yk_338 : ychk yKD (yct yCT0 yD337) xMT xFT yEX xm203 yD_338.2.1 yD_338.2.2.1 400 = true := by decide +kernel
-- IceBoatsModel.takes
def yD_339 : YD := (202, ([(1, 30, 0), (0, 0, 2), (0, 0, 39)], [], false, [(none, [])]), [], 400)
def yD339 : List YD := yD_339 :: yD338
theorem yk_339 : ychk yKD (yct yCT0 yD338) xMT xFT yEX xm202 yD_339.2.1 yD_339.2.2.1 400 = true := by decide +kernel
-- IceBoatsModel.hears
def yD_340 : YD := (201, ([(1, 30, 0), (0, 0, 2)], [], false, [(some (.inr (0, [])), []), (some (.inr (1, [])), [])]), [(51, [(0, 1, (1, 30, 0)), (1, 1, (0, 0, 2)), (2, 1, (0, -2147483648, 2147483647)), (3, 1, (0, 0, 39)), (4, 1, (0, 0, 40))], [(0, 6, (0, 0, 999)), (0, 36, (0, 1, 40)), (0, 42, (1, 63, 0))], [(-1, [(3, -1), (6, 1)])], (81, [(4, -2)])), (51, [(0, 1, (1, 30, 0)), (1, 1, (0, 0, 2)), (2, 1, (0, 0, 0)), (3, 1, (0, -9, -9)), (4, 1, (0, 0, 40))], [(0, 36, (0, 0, 40))], [(-1, [(3, -1), (5, 1)])], (81, [(4, -2)])), (8, [(0, 1, (1, 30, 0)), (1, 1, (0, 0, 2)), (2, 1, (0, -2147483648, 2147483647)), (3, 1, (0, 0, 39)), (4, 1, (0, 1, 40))], [(0, 6, (0, 0, 999)), (0, 36, (0, 1, 40)), (0, 42, (1, 63, 0))], [(-1, [(3, -1), (6, 1)])], (163, [(4, -2)])), (8, [(0, 1, (1, 30, 0)), (1, 1, (0, 0, 2)), (2, 1, (0, 0, 0)), (3, 1, (0, -9, -9)), (4, 1, (0, 0, 40))], [], [], (163, [(4, -2)]))], 400)
def yD340 : List YD := yD_340 :: yD339
theorem yk_340 : ychk yKD (yct yCT0 yD339) xMT xFT yEX xm201 yD_340.2.1 yD_340.2.2.1 400 = true := by decide +kernel
-- IceBoatsModel.nearer
def yD_341 : YD := (204, ([(1, 30, 0), (0, 0, 3), (0, 0, 63)], [], true, [(some (.inl (0, 0, 4)), [])]), [(13, [(0, 1, (1, 30, 0)), (1, 1, (0, 0, 3)), (2, 1, (0, 0, 63)), (3, 1, (0, 0, 63)), (4, 1, (0, 1, 5))], [(0, 23, (1, 46, 0))], [], (11, [(4, -2)]))], 400)
def yD341 : List YD := yD_341 :: yD340
theorem yk_341 : ychk yKD (yct yCT0 yD340) xMT xFT yEX xm204 yD_341.2.1 yD_341.2.2.1 400 = true := by decide +kernel
-- IceBoatsModel.keepsFar
def yD_342 : YD := (203, ([(1, 30, 0), (0, 0, 3), (0, 0, 0)], [], false, [(none, [])]), [(18, [(0, 1, (1, 30, 0)), (1, 1, (0, 0, 3)), (2, 1, (0, 0, 0)), (3, 1, (0, -2147483648, 2147483647)), (4, 1, (2, 0, 0)), (6, 1, (0, 0, 64))], [], [], (8579, [(5, -132)])), (58, [(0, 1, (1, 30, 0)), (1, 1, (0, 0, 3)), (2, 1, (0, 0, 0)), (3, 1, (0, -2147483648, 2147483647)), (4, 1, (2, 0, 0)), (6, 1, (0, 0, 63)), (7, 1, (0, 0, 64))], [], [], (8577, [(5, -132), (6, -2)]))], 400)
def yD342 : List YD := yD_342 :: yD341
theorem yk_342 : ychk yKD (yct yCT0 yD341) xMT xFT yEX xm203 yD_342.2.1 yD_342.2.2.1 400 = true := by decide +kernel
-- IceBoatsModel.takes
def yD_343 : YD := (202, ([(1, 30, 0), (0, 0, 3), (0, 0, 0)], [], false, [(none, [])]), [], 400)
def yD343 : List YD := yD_343 :: yD342
theorem yk_343 : ychk yKD (yct yCT0 yD342) xMT xFT yEX xm202 yD_343.2.1 yD_343.2.2.1 400 = true := by decide +kernel
-- IceBoatsModel.keepsFar
def yD_344 : YD := (203, ([(1, 30, 0), (0, 0, 3), (0, 0, 1)], [], false, [(none, [])]), [(18, [(0, 1, (1, 30, 0)), (1, 1, (0, 0, 3)), (2, 1, (0, 0, 1)), (3, 1, (0, -2147483648, 2147483647)), (4, 1, (2, 0, 0)), (6, 1, (0, 0, 64))], [], [], (8579, [(5, -132)])), (58, [(0, 1, (1, 30, 0)), (1, 1, (0, 0, 3)), (2, 1, (0, 0, 1)), (3, 1, (0, -2147483648, 2147483647)), (4, 1, (2, 0, 0)), (6, 1, (0, 0, 63)), (7, 1, (0, 0, 64))], [], [], (8577, [(5, -132), (6, -2)]))], 400)
def yD344 : List YD := yD_344 :: yD343
theorem yk_344 : ychk yKD (yct yCT0 yD343) xMT xFT yEX xm203 yD_344.2.1 yD_344.2.2.1 400 = true := by decide +kernel
-- IceBoatsModel.takes
def yD_345 : YD := (202, ([(1, 30, 0), (0, 0, 3), (0, 0, 1)], [], false, [(none, [])]), [], 400)
def yD345 : List YD := yD_345 :: yD344
theorem yk_345 : ychk yKD (yct yCT0 yD344) xMT xFT yEX xm202 yD_345.2.1 yD_345.2.2.1 400 = true := by decide +kernel
-- IceBoatsModel.keepsFar
def yD_346 : YD := (203, ([(1, 30, 0), (0, 0, 3), (0, 0, 3)], [], false, [(none, [])]), [(18, [(0, 1, (1, 30, 0)), (1, 1, (0, 0, 3)), (2, 1, (0, 0, 3)), (3, 1, (0, -2147483648, 2147483647)), (4, 1, (2, 0, 0)), (6, 1, (0, 0, 64))], [], [], (8579, [(5, -132)])), (58, [(0, 1, (1, 30, 0)), (1, 1, (0, 0, 3)), (2, 1, (0, 0, 3)), (3, 1, (0, -2147483648, 2147483647)), (4, 1, (2, 0, 0)), (6, 1, (0, 0, 63)), (7, 1, (0, 0, 64))], [], [], (8577, [(5, -132), (6, -2)]))], 400)
def yD346 : List YD := yD_346 :: yD345
theorem yk_346 : ychk yKD (yct yCT0 yD345) xMT xFT yEX xm203 yD_346.2.1 yD_346.2.2.1 400 = true := by decide +kernel
-- IceBoatsModel.takes
def yD_347 : YD := (202, ([(1, 30, 0), (0, 0, 3), (0, 0, 3)], [], false, [(none, [])]), [], 400)
def yD347 : List YD := yD_347 :: yD346
theorem yk_347 : ychk yKD (yct yCT0 yD346) xMT xFT yEX xm202 yD_347.2.1 yD_347.2.2.1 400 = true := by decide +kernel
-- IceBoatsModel.keepsFar
def yD_348 : YD := (203, ([(1, 30, 0), (0, 0, 3), (0, 0, 5)], [], false, [(none, [])]), [(18, [(0, 1, (1, 30, 0)), (1, 1, (0, 0, 3)), (2, 1, (0, 0, 5)), (3, 1, (0, -2147483648, 2147483647)), (4, 1, (2, 0, 0)), (6, 1, (0, 0, 64))], [], [], (8579, [(5, -132)])), (58, [(0, 1, (1, 30, 0)), (1, 1, (0, 0, 3)), (2, 1, (0, 0, 5)), (3, 1, (0, -2147483648, 2147483647)), (4, 1, (2, 0, 0)), (6, 1, (0, 0, 63)), (7, 1, (0, 0, 64))], [], [], (8577, [(5, -132), (6, -2)]))], 400)
def yD348 : List YD := yD_348 :: yD347
theorem yk_348 : ychk yKD (yct yCT0 yD347) xMT xFT yEX xm203 yD_348.2.1 yD_348.2.2.1 400 = true := by decide +kernel
-- IceBoatsModel.takes
def yD_349 : YD := (202, ([(1, 30, 0), (0, 0, 3), (0, 0, 5)], [], false, [(none, [])]), [], 400)
def yD349 : List YD := yD_349 :: yD348
theorem yk_349 : ychk yKD (yct yCT0 yD348) xMT xFT yEX xm202 yD_349.2.1 yD_349.2.2.1 400 = true := by decide +kernel
-- IceBoatsModel.keepsFar
def yD_350 : YD := (203, ([(1, 30, 0), (0, 0, 3), (0, 0, 6)], [], false, [(none, [])]), [(18, [(0, 1, (1, 30, 0)), (1, 1, (0, 0, 3)), (2, 1, (0, 0, 6)), (3, 1, (0, -2147483648, 2147483647)), (4, 1, (2, 0, 0)), (6, 1, (0, 0, 64))], [], [], (8579, [(5, -132)])), (58, [(0, 1, (1, 30, 0)), (1, 1, (0, 0, 3)), (2, 1, (0, 0, 6)), (3, 1, (0, -2147483648, 2147483647)), (4, 1, (2, 0, 0)), (6, 1, (0, 0, 63)), (7, 1, (0, 0, 64))], [], [], (8577, [(5, -132), (6, -2)]))], 400)
def yD350 : List YD := yD_350 :: yD349
theorem yk_350 : ychk yKD (yct yCT0 yD349) xMT xFT yEX xm203 yD_350.2.1 yD_350.2.2.1 400 = true := by decide +kernel
-- IceBoatsModel.takes
def yD_351 : YD := (202, ([(1, 30, 0), (0, 0, 3), (0, 0, 6)], [], false, [(none, [])]), [], 400)
def yD351 : List YD := yD_351 :: yD350
theorem yk_351 : ychk yKD (yct yCT0 yD350) xMT xFT yEX xm202 yD_351.2.1 yD_351.2.2.1 400 = true := by decide +kernel
-- IceBoatsModel.keepsFar
def yD_352 : YD := (203, ([(1, 30, 0), (0, 0, 3), (0, 0, 7)], [], false, [(none, [])]), [(18, [(0, 1, (1, 30, 0)), (1, 1, (0, 0, 3)), (2, 1, (0, 0, 7)), (3, 1, (0, -2147483648, 2147483647)), (4, 1, (2, 0, 0)), (6, 1, (0, 0, 64))], [], [], (8579, [(5, -132)])), (58, [(0, 1, (1, 30, 0)), (1, 1, (0, 0, 3)), (2, 1, (0, 0, 7)), (3, 1, (0, -2147483648, 2147483647)), (4, 1, (2, 0, 0)), (6, 1, (0, 0, 63)), (7, 1, (0, 0, 64))], [], [], (8577, [(5, -132), (6, -2)]))], 400)
def yD352 : List YD := yD_352 :: yD351
theorem yk_352 : ychk yKD (yct yCT0 yD351) xMT xFT yEX xm203 yD_352.2.1 yD_352.2.2.1 400 = true := by decide +kernel
-- IceBoatsModel.takes
def yD_353 : YD := (202, ([(1, 30, 0), (0, 0, 3), (0, 0, 7)], [], false, [(none, [])]), [], 400)
def yD353 : List YD := yD_353 :: yD352
theorem yk_353 : ychk yKD (yct yCT0 yD352) xMT xFT yEX xm202 yD_353.2.1 yD_353.2.2.1 400 = true := by decide +kernel
-- IceBoatsModel.keepsFar
def yD_354 : YD := (203, ([(1, 30, 0), (0, 0, 3), (0, 0, 9)], [], false, [(none, [])]), [(18, [(0, 1, (1, 30, 0)), (1, 1, (0, 0, 3)), (2, 1, (0, 0, 9)), (3, 1, (0, -2147483648, 2147483647)), (4, 1, (2, 0, 0)), (6, 1, (0, 0, 64))], [], [], (8579, [(5, -132)])), (58, [(0, 1, (1, 30, 0)), (1, 1, (0, 0, 3)), (2, 1, (0, 0, 9)), (3, 1, (0, -2147483648, 2147483647)), (4, 1, (2, 0, 0)), (6, 1, (0, 0, 63)), (7, 1, (0, 0, 64))], [], [], (8577, [(5, -132), (6, -2)]))], 400)
def yD354 : List YD := yD_354 :: yD353
theorem yk_354 : ychk yKD (yct yCT0 yD353) xMT xFT yEX xm203 yD_354.2.1 yD_354.2.2.1 400 = true := by decide +kernel
-- IceBoatsModel.takes
def yD_355 : YD := (202, ([(1, 30, 0), (0, 0, 3), (0, 0, 9)], [], false, [(none, [])]), [], 400)
def yD355 : List YD := yD_355 :: yD354
theorem yk_355 : ychk yKD (yct yCT0 yD354) xMT xFT yEX xm202 yD_355.2.1 yD_355.2.2.1 400 = true := by decide +kernel
-- IceBoatsModel.keepsFar
def yD_356 : YD := (203, ([(1, 30, 0), (0, 0, 3), (0, 0, 13)], [], false, [(none, [])]), [(18, [(0, 1, (1, 30, 0)), (1, 1, (0, 0, 3)), (2, 1, (0, 0, 13)), (3, 1, (0, -2147483648, 2147483647)), (4, 1, (2, 0, 0)), (6, 1, (0, 0, 64))], [], [], (8579, [(5, -132)])), (58, [(0, 1, (1, 30, 0)), (1, 1, (0, 0, 3)), (2, 1, (0, 0, 13)), (3, 1, (0, -2147483648, 2147483647)), (4, 1, (2, 0, 0)), (6, 1, (0, 0, 63)), (7, 1, (0, 0, 64))], [], [], (8577, [(5, -132), (6, -2)]))], 400)
def yD356 : List YD := yD_356 :: yD355
theorem yk_356 : ychk yKD (yct yCT0 yD355) xMT xFT yEX xm203 yD_356.2.1 yD_356.2.2.1 400 = true := by decide +kernel
-- IceBoatsModel.takes
def yD_357 : YD := (202, ([(1, 30, 0), (0, 0, 3), (0, 0, 13)], [], false, [(none, [])]), [], 400)
def yD357 : List YD := yD_357 :: yD356
theorem yk_357 : ychk yKD (yct yCT0 yD356) xMT xFT yEX xm202 yD_357.2.1 yD_357.2.2.1 400 = true := by decide +kernel
-- IceBoatsModel.keepsFar
def yD_358 : YD := (203, ([(1, 30, 0), (0, 0, 3), (0, 0, 14)], [], false, [(none, [])]), [(18, [(0, 1, (1, 30, 0)), (1, 1, (0, 0, 3)), (2, 1, (0, 0, 14)), (3, 1, (0, -2147483648, 2147483647)), (4, 1, (2, 0, 0)), (6, 1, (0, 0, 64))], [], [], (8579, [(5, -132)])), (58, [(0, 1, (1, 30, 0)), (1, 1, (0, 0, 3)), (2, 1, (0, 0, 14)), (3, 1, (0, -2147483648, 2147483647)), (4, 1, (2, 0, 0)), (6, 1, (0, 0, 63)), (7, 1, (0, 0, 64))], [], [], (8577, [(5, -132), (6, -2)]))], 400)
def yD358 : List YD := yD_358 :: yD357
theorem yk_358 : ychk yKD (yct yCT0 yD357) xMT xFT yEX xm203 yD_358.2.1 yD_358.2.2.1 400 = true := by decide +kernel
-- IceBoatsModel.takes
def yD_359 : YD := (202, ([(1, 30, 0), (0, 0, 3), (0, 0, 14)], [], false, [(none, [])]), [], 400)
def yD359 : List YD := yD_359 :: yD358
theorem yk_359 : ychk yKD (yct yCT0 yD358) xMT xFT yEX xm202 yD_359.2.1 yD_359.2.2.1 400 = true := by decide +kernel
-- IceBoatsModel.keepsFar
def yD_360 : YD := (203, ([(1, 30, 0), (0, 0, 3), (0, 0, 15)], [], false, [(none, [])]), [(18, [(0, 1, (1, 30, 0)), (1, 1, (0, 0, 3)), (2, 1, (0, 0, 15)), (3, 1, (0, -2147483648, 2147483647)), (4, 1, (2, 0, 0)), (6, 1, (0, 0, 64))], [], [], (8579, [(5, -132)])), (58, [(0, 1, (1, 30, 0)), (1, 1, (0, 0, 3)), (2, 1, (0, 0, 15)), (3, 1, (0, -2147483648, 2147483647)), (4, 1, (2, 0, 0)), (6, 1, (0, 0, 63)), (7, 1, (0, 0, 64))], [], [], (8577, [(5, -132), (6, -2)]))], 400)
def yD360 : List YD := yD_360 :: yD359
theorem yk_360 : ychk yKD (yct yCT0 yD359) xMT xFT yEX xm203 yD_360.2.1 yD_360.2.2.1 400 = true := by decide +kernel
-- IceBoatsModel.takes
def yD_361 : YD := (202, ([(1, 30, 0), (0, 0, 3), (0, 0, 15)], [], false, [(none, [])]), [], 400)
def yD361 : List YD := yD_361 :: yD360
theorem yk_361 : ychk yKD (yct yCT0 yD360) xMT xFT yEX xm202 yD_361.2.1 yD_361.2.2.1 400 = true := by decide +kernel
-- IceBoatsModel.keepsFar
def yD_362 : YD := (203, ([(1, 30, 0), (0, 0, 3), (0, 0, 16)], [], false, [(none, [])]), [(18, [(0, 1, (1, 30, 0)), (1, 1, (0, 0, 3)), (2, 1, (0, 0, 16)), (3, 1, (0, -2147483648, 2147483647)), (4, 1, (2, 0, 0)), (6, 1, (0, 0, 64))], [], [], (8579, [(5, -132)])), (58, [(0, 1, (1, 30, 0)), (1, 1, (0, 0, 3)), (2, 1, (0, 0, 16)), (3, 1, (0, -2147483648, 2147483647)), (4, 1, (2, 0, 0)), (6, 1, (0, 0, 63)), (7, 1, (0, 0, 64))], [], [], (8577, [(5, -132), (6, -2)]))], 400)
def yD362 : List YD := yD_362 :: yD361
theorem yk_362 : ychk yKD (yct yCT0 yD361) xMT xFT yEX xm203 yD_362.2.1 yD_362.2.2.1 400 = true := by decide +kernel
-- IceBoatsModel.takes
def yD_363 : YD := (202, ([(1, 30, 0), (0, 0, 3), (0, 0, 16)], [], false, [(none, [])]), [], 400)
def yD363 : List YD := yD_363 :: yD362
theorem yk_363 : ychk yKD (yct yCT0 yD362) xMT xFT yEX xm202 yD_363.2.1 yD_363.2.2.1 400 = true := by decide +kernel
-- IceBoatsModel.keepsFar
def yD_364 : YD := (203, ([(1, 30, 0), (0, 0, 3), (0, 0, 20)], [], false, [(none, [])]), [(18, [(0, 1, (1, 30, 0)), (1, 1, (0, 0, 3)), (2, 1, (0, 0, 20)), (3, 1, (0, -2147483648, 2147483647)), (4, 1, (2, 0, 0)), (6, 1, (0, 0, 64))], [], [], (8579, [(5, -132)])), (58, [(0, 1, (1, 30, 0)), (1, 1, (0, 0, 3)), (2, 1, (0, 0, 20)), (3, 1, (0, -2147483648, 2147483647)), (4, 1, (2, 0, 0)), (6, 1, (0, 0, 63)), (7, 1, (0, 0, 64))], [], [], (8577, [(5, -132), (6, -2)]))], 400)
def yD364 : List YD := yD_364 :: yD363
theorem yk_364 : ychk yKD (yct yCT0 yD363) xMT xFT yEX xm203 yD_364.2.1 yD_364.2.2.1 400 = true := by decide +kernel
-- IceBoatsModel.takes
def yD_365 : YD := (202, ([(1, 30, 0), (0, 0, 3), (0, 0, 20)], [], false, [(none, [])]), [], 400)
def yD365 : List YD := yD_365 :: yD364
theorem yk_365 : ychk yKD (yct yCT0 yD364) xMT xFT yEX xm202 yD_365.2.1 yD_365.2.2.1 400 = true := by decide +kernel
-- IceBoatsModel.keepsFar
def yD_366 : YD := (203, ([(1, 30, 0), (0, 0, 3), (0, 0, 21)], [], false, [(none, [])]), [(18, [(0, 1, (1, 30, 0)), (1, 1, (0, 0, 3)), (2, 1, (0, 0, 21)), (3, 1, (0, -2147483648, 2147483647)), (4, 1, (2, 0, 0)), (6, 1, (0, 0, 64))], [], [], (8579, [(5, -132)])), (58, [(0, 1, (1, 30, 0)), (1, 1, (0, 0, 3)), (2, 1, (0, 0, 21)), (3, 1, (0, -2147483648, 2147483647)), (4, 1, (2, 0, 0)), (6, 1, (0, 0, 63)), (7, 1, (0, 0, 64))], [], [], (8577, [(5, -132), (6, -2)]))], 400)
def yD366 : List YD := yD_366 :: yD365
theorem yk_366 : ychk yKD (yct yCT0 yD365) xMT xFT yEX xm203 yD_366.2.1 yD_366.2.2.1 400 = true := by decide +kernel
-- IceBoatsModel.takes
def yD_367 : YD := (202, ([(1, 30, 0), (0, 0, 3), (0, 0, 21)], [], false, [(none, [])]), [], 400)
def yD367 : List YD := yD_367 :: yD366
theorem yk_367 : ychk yKD (yct yCT0 yD366) xMT xFT yEX xm202 yD_367.2.1 yD_367.2.2.1 400 = true := by decide +kernel
-- IceBoatsModel.keepsFar
def yD_368 : YD := (203, ([(1, 30, 0), (0, 0, 3), (0, 0, 24)], [], false, [(none, [])]), [(18, [(0, 1, (1, 30, 0)), (1, 1, (0, 0, 3)), (2, 1, (0, 0, 24)), (3, 1, (0, -2147483648, 2147483647)), (4, 1, (2, 0, 0)), (6, 1, (0, 0, 64))], [], [], (8579, [(5, -132)])), (58, [(0, 1, (1, 30, 0)), (1, 1, (0, 0, 3)), (2, 1, (0, 0, 24)), (3, 1, (0, -2147483648, 2147483647)), (4, 1, (2, 0, 0)), (6, 1, (0, 0, 63)), (7, 1, (0, 0, 64))], [], [], (8577, [(5, -132), (6, -2)]))], 400)
def yD368 : List YD := yD_368 :: yD367
theorem yk_368 : ychk yKD (yct yCT0 yD367) xMT xFT yEX xm203 yD_368.2.1 yD_368.2.2.1 400 = true := by decide +kernel
-- IceBoatsModel.takes
def yD_369 : YD := (202, ([(1, 30, 0), (0, 0, 3), (0, 0, 24)], [], false, [(none, [])]), [], 400)
def yD369 : List YD := yD_369 :: yD368
theorem yk_369 : ychk yKD (yct yCT0 yD368) xMT xFT yEX xm202 yD_369.2.1 yD_369.2.2.1 400 = true := by decide +kernel
-- IceBoatsModel.keepsFar
def yD_370 : YD := (203, ([(1, 30, 0), (0, 0, 3), (0, 0, 36)], [], false, [(none, [])]), [(18, [(0, 1, (1, 30, 0)), (1, 1, (0, 0, 3)), (2, 1, (0, 0, 36)), (3, 1, (0, -2147483648, 2147483647)), (4, 1, (2, 0, 0)), (6, 1, (0, 0, 64))], [], [], (8579, [(5, -132)])), (58, [(0, 1, (1, 30, 0)), (1, 1, (0, 0, 3)), (2, 1, (0, 0, 36)), (3, 1, (0, -2147483648, 2147483647)), (4, 1, (2, 0, 0)), (6, 1, (0, 0, 63)), (7, 1, (0, 0, 64))], [], [], (8577, [(5, -132), (6, -2)]))], 400)
def yD370 : List YD := yD_370 :: yD369
theorem yk_370 : ychk yKD (yct yCT0 yD369) xMT xFT yEX xm203 yD_370.2.1 yD_370.2.2.1 400 = true := by decide +kernel
-- IceBoatsModel.takes
def yD_371 : YD := (202, ([(1, 30, 0), (0, 0, 3), (0, 0, 36)], [], false, [(none, [])]), [], 400)
def yD371 : List YD := yD_371 :: yD370
theorem yk_371 : ychk yKD (yct yCT0 yD370) xMT xFT yEX xm202 yD_371.2.1 yD_371.2.2.1 400 = true := by decide +kernel
-- IceBoatsModel.keepsFar
def yD_372 : YD := (203, ([(1, 30, 0), (0, 0, 3), (0, 0, 39)], [], false, [(none, [])]), [(18, [(0, 1, (1, 30, 0)), (1, 1, (0, 0, 3)), (2, 1, (0, 0, 39)), (3, 1, (0, -2147483648, 2147483647)), (4, 1, (2, 0, 0)), (6, 1, (0, 0, 64))], [], [], (8579, [(5, -132)])), (58, [(0, 1, (1, 30, 0)), (1, 1, (0, 0, 3)), (2, 1, (0, 0, 39)), (3, 1, (0, -2147483648, 2147483647)), (4, 1, (2, 0, 0)), (6, 1, (0, 0, 63)), (7, 1, (0, 0, 64))], [], [], (8577, [(5, -132), (6, -2)]))], 400)
def yD372 : List YD := yD_372 :: yD371
theorem yk_372 : ychk yKD (yct yCT0 yD371) xMT xFT yEX xm203 yD_372.2.1 yD_372.2.2.1 400 = true := by decide +kernel
-- IceBoatsModel.takes
def yD_373 : YD := (202, ([(1, 30, 0), (0, 0, 3), (0, 0, 39)], [], false, [(none, [])]), [], 400)
def yD373 : List YD := yD_373 :: yD372
theorem yk_373 : ychk yKD (yct yCT0 yD372) xMT xFT yEX xm202 yD_373.2.1 yD_373.2.2.1 400 = true := by decide +kernel
-- IceBoatsModel.hears
def yD_374 : YD := (201, ([(1, 30, 0), (0, 0, 3)], [], false, [(some (.inr (0, [])), []), (some (.inr (1, [])), [])]), [(51, [(0, 1, (1, 30, 0)), (1, 1, (0, 0, 3)), (2, 1, (0, -2147483648, 2147483647)), (3, 1, (0, 0, 39)), (4, 1, (0, 0, 40))], [(0, 6, (0, 0, 999)), (0, 36, (0, 1, 40)), (0, 42, (1, 63, 0))], [(-1, [(3, -1), (6, 1)])], (81, [(4, -2)])), (51, [(0, 1, (1, 30, 0)), (1, 1, (0, 0, 3)), (2, 1, (0, 0, 0)), (3, 1, (0, -9, -9)), (4, 1, (0, 0, 40))], [(0, 36, (0, 0, 40))], [(-1, [(3, -1), (5, 1)])], (81, [(4, -2)])), (8, [(0, 1, (1, 30, 0)), (1, 1, (0, 0, 3)), (2, 1, (0, -2147483648, 2147483647)), (3, 1, (0, 0, 39)), (4, 1, (0, 1, 40))], [(0, 6, (0, 0, 999)), (0, 36, (0, 1, 40)), (0, 42, (1, 63, 0))], [(-1, [(3, -1), (6, 1)])], (163, [(4, -2)])), (8, [(0, 1, (1, 30, 0)), (1, 1, (0, 0, 3)), (2, 1, (0, 0, 0)), (3, 1, (0, -9, -9)), (4, 1, (0, 0, 40))], [], [], (163, [(4, -2)]))], 400)
def yD374 : List YD := yD_374 :: yD373
theorem yk_374 : ychk yKD (yct yCT0 yD373) xMT xFT yEX xm201 yD_374.2.1 yD_374.2.2.1 400 = true := by decide +kernel
-- IceBoatsModel.nearer
def yD_375 : YD := (204, ([(1, 30, 0), (0, 0, 4), (0, 0, 63)], [], true, [(some (.inl (0, 0, 4)), [])]), [(13, [(0, 1, (1, 30, 0)), (1, 1, (0, 0, 4)), (2, 1, (0, 0, 63)), (3, 1, (0, 0, 63)), (4, 1, (0, 1, 5))], [(0, 23, (1, 46, 0))], [], (11, [(4, -2)]))], 400)
def yD375 : List YD := yD_375 :: yD374
theorem yk_375 : ychk yKD (yct yCT0 yD374) xMT xFT yEX xm204 yD_375.2.1 yD_375.2.2.1 400 = true := by decide +kernel
-- IceBoatsModel.keepsFar
def yD_376 : YD := (203, ([(1, 30, 0), (0, 0, 4), (0, 0, 0)], [], false, [(none, [])]), [(18, [(0, 1, (1, 30, 0)), (1, 1, (0, 0, 4)), (2, 1, (0, 0, 0)), (3, 1, (0, -2147483648, 2147483647)), (4, 1, (2, 0, 0)), (6, 1, (0, 0, 64))], [], [], (8579, [(5, -132)])), (58, [(0, 1, (1, 30, 0)), (1, 1, (0, 0, 4)), (2, 1, (0, 0, 0)), (3, 1, (0, -2147483648, 2147483647)), (4, 1, (2, 0, 0)), (6, 1, (0, 0, 63)), (7, 1, (0, 0, 64))], [], [], (8577, [(5, -132), (6, -2)]))], 400)
def yD376 : List YD := yD_376 :: yD375
theorem yk_376 : ychk yKD (yct yCT0 yD375) xMT xFT yEX xm203 yD_376.2.1 yD_376.2.2.1 400 = true := by decide +kernel
-- IceBoatsModel.takes
def yD_377 : YD := (202, ([(1, 30, 0), (0, 0, 4), (0, 0, 0)], [], false, [(none, [])]), [], 400)
def yD377 : List YD := yD_377 :: yD376
theorem yk_377 : ychk yKD (yct yCT0 yD376) xMT xFT yEX xm202 yD_377.2.1 yD_377.2.2.1 400 = true := by decide +kernel
-- IceBoatsModel.keepsFar
def yD_378 : YD := (203, ([(1, 30, 0), (0, 0, 4), (0, 0, 1)], [], false, [(none, [])]), [(18, [(0, 1, (1, 30, 0)), (1, 1, (0, 0, 4)), (2, 1, (0, 0, 1)), (3, 1, (0, -2147483648, 2147483647)), (4, 1, (2, 0, 0)), (6, 1, (0, 0, 64))], [], [], (8579, [(5, -132)])), (58, [(0, 1, (1, 30, 0)), (1, 1, (0, 0, 4)), (2, 1, (0, 0, 1)), (3, 1, (0, -2147483648, 2147483647)), (4, 1, (2, 0, 0)), (6, 1, (0, 0, 63)), (7, 1, (0, 0, 64))], [], [], (8577, [(5, -132), (6, -2)]))], 400)
def yD378 : List YD := yD_378 :: yD377
theorem yk_378 : ychk yKD (yct yCT0 yD377) xMT xFT yEX xm203 yD_378.2.1 yD_378.2.2.1 400 = true := by decide +kernel
-- IceBoatsModel.takes
def yD_379 : YD := (202, ([(1, 30, 0), (0, 0, 4), (0, 0, 1)], [], false, [(none, [])]), [], 400)
def yD379 : List YD := yD_379 :: yD378
theorem yk_379 : ychk yKD (yct yCT0 yD378) xMT xFT yEX xm202 yD_379.2.1 yD_379.2.2.1 400 = true := by decide +kernel
-- IceBoatsModel.keepsFar
def yD_380 : YD := (203, ([(1, 30, 0), (0, 0, 4), (0, 0, 3)], [], false, [(none, [])]), [(18, [(0, 1, (1, 30, 0)), (1, 1, (0, 0, 4)), (2, 1, (0, 0, 3)), (3, 1, (0, -2147483648, 2147483647)), (4, 1, (2, 0, 0)), (6, 1, (0, 0, 64))], [], [], (8579, [(5, -132)])), (58, [(0, 1, (1, 30, 0)), (1, 1, (0, 0, 4)), (2, 1, (0, 0, 3)), (3, 1, (0, -2147483648, 2147483647)), (4, 1, (2, 0, 0)), (6, 1, (0, 0, 63)), (7, 1, (0, 0, 64))], [], [], (8577, [(5, -132), (6, -2)]))], 400)
def yD380 : List YD := yD_380 :: yD379
theorem yk_380 : ychk yKD (yct yCT0 yD379) xMT xFT yEX xm203 yD_380.2.1 yD_380.2.2.1 400 = true := by decide +kernel
-- IceBoatsModel.takes
def yD_381 : YD := (202, ([(1, 30, 0), (0, 0, 4), (0, 0, 3)], [], false, [(none, [])]), [], 400)
def yD381 : List YD := yD_381 :: yD380
theorem yk_381 : ychk yKD (yct yCT0 yD380) xMT xFT yEX xm202 yD_381.2.1 yD_381.2.2.1 400 = true := by decide +kernel
-- IceBoatsModel.keepsFar
def yD_382 : YD := (203, ([(1, 30, 0), (0, 0, 4), (0, 0, 5)], [], false, [(none, [])]), [(18, [(0, 1, (1, 30, 0)), (1, 1, (0, 0, 4)), (2, 1, (0, 0, 5)), (3, 1, (0, -2147483648, 2147483647)), (4, 1, (2, 0, 0)), (6, 1, (0, 0, 64))], [], [], (8579, [(5, -132)])), (58, [(0, 1, (1, 30, 0)), (1, 1, (0, 0, 4)), (2, 1, (0, 0, 5)), (3, 1, (0, -2147483648, 2147483647)), (4, 1, (2, 0, 0)), (6, 1, (0, 0, 63)), (7, 1, (0, 0, 64))], [], [], (8577, [(5, -132), (6, -2)]))], 400)
def yD382 : List YD := yD_382 :: yD381
theorem yk_382 : ychk yKD (yct yCT0 yD381) xMT xFT yEX xm203 yD_382.2.1 yD_382.2.2.1 400 = true := by decide +kernel
-- IceBoatsModel.takes
def yD_383 : YD := (202, ([(1, 30, 0), (0, 0, 4), (0, 0, 5)], [], false, [(none, [])]), [], 400)
def yD383 : List YD := yD_383 :: yD382
theorem yk_383 : ychk yKD (yct yCT0 yD382) xMT xFT yEX xm202 yD_383.2.1 yD_383.2.2.1 400 = true := by decide +kernel
-- IceBoatsModel.keepsFar
def yD_384 : YD := (203, ([(1, 30, 0), (0, 0, 4), (0, 0, 6)], [], false, [(none, [])]), [(18, [(0, 1, (1, 30, 0)), (1, 1, (0, 0, 4)), (2, 1, (0, 0, 6)), (3, 1, (0, -2147483648, 2147483647)), (4, 1, (2, 0, 0)), (6, 1, (0, 0, 64))], [], [], (8579, [(5, -132)])), (58, [(0, 1, (1, 30, 0)), (1, 1, (0, 0, 4)), (2, 1, (0, 0, 6)), (3, 1, (0, -2147483648, 2147483647)), (4, 1, (2, 0, 0)), (6, 1, (0, 0, 63)), (7, 1, (0, 0, 64))], [], [], (8577, [(5, -132), (6, -2)]))], 400)
def yD384 : List YD := yD_384 :: yD383
theorem yk_384 : ychk yKD (yct yCT0 yD383) xMT xFT yEX xm203 yD_384.2.1 yD_384.2.2.1 400 = true := by decide +kernel
-- IceBoatsModel.takes
def yD_385 : YD := (202, ([(1, 30, 0), (0, 0, 4), (0, 0, 6)], [], false, [(none, [])]), [], 400)
def yD385 : List YD := yD_385 :: yD384
theorem yk_385 : ychk yKD (yct yCT0 yD384) xMT xFT yEX xm202 yD_385.2.1 yD_385.2.2.1 400 = true := by decide +kernel
-- IceBoatsModel.keepsFar
def yD_386 : YD := (203, ([(1, 30, 0), (0, 0, 4), (0, 0, 7)], [], false, [(none, [])]), [(18, [(0, 1, (1, 30, 0)), (1, 1, (0, 0, 4)), (2, 1, (0, 0, 7)), (3, 1, (0, -2147483648, 2147483647)), (4, 1, (2, 0, 0)), (6, 1, (0, 0, 64))], [], [], (8579, [(5, -132)])), (58, [(0, 1, (1, 30, 0)), (1, 1, (0, 0, 4)), (2, 1, (0, 0, 7)), (3, 1, (0, -2147483648, 2147483647)), (4, 1, (2, 0, 0)), (6, 1, (0, 0, 63)), (7, 1, (0, 0, 64))], [], [], (8577, [(5, -132), (6, -2)]))], 400)
def yD386 : List YD := yD_386 :: yD385
theorem yk_386 : ychk yKD (yct yCT0 yD385) xMT xFT yEX xm203 yD_386.2.1 yD_386.2.2.1 400 = true := by decide +kernel
-- IceBoatsModel.takes
def yD_387 : YD := (202, ([(1, 30, 0), (0, 0, 4), (0, 0, 7)], [], false, [(none, [])]), [], 400)
def yD387 : List YD := yD_387 :: yD386
theorem yk_387 : ychk yKD (yct yCT0 yD386) xMT xFT yEX xm202 yD_387.2.1 yD_387.2.2.1 400 = true := by decide +kernel
-- IceBoatsModel.keepsFar
def yD_388 : YD := (203, ([(1, 30, 0), (0, 0, 4), (0, 0, 9)], [], false, [(none, [])]), [(18, [(0, 1, (1, 30, 0)), (1, 1, (0, 0, 4)), (2, 1, (0, 0, 9)), (3, 1, (0, -2147483648, 2147483647)), (4, 1, (2, 0, 0)), (6, 1, (0, 0, 64))], [], [], (8579, [(5, -132)])), (58, [(0, 1, (1, 30, 0)), (1, 1, (0, 0, 4)), (2, 1, (0, 0, 9)), (3, 1, (0, -2147483648, 2147483647)), (4, 1, (2, 0, 0)), (6, 1, (0, 0, 63)), (7, 1, (0, 0, 64))], [], [], (8577, [(5, -132), (6, -2)]))], 400)
def yD388 : List YD := yD_388 :: yD387
theorem yk_388 : ychk yKD (yct yCT0 yD387) xMT xFT yEX xm203 yD_388.2.1 yD_388.2.2.1 400 = true := by decide +kernel
-- IceBoatsModel.takes
def yD_389 : YD := (202, ([(1, 30, 0), (0, 0, 4), (0, 0, 9)], [], false, [(none, [])]), [], 400)
def yD389 : List YD := yD_389 :: yD388
theorem yk_389 : ychk yKD (yct yCT0 yD388) xMT xFT yEX xm202 yD_389.2.1 yD_389.2.2.1 400 = true := by decide +kernel
-- IceBoatsModel.keepsFar
def yD_390 : YD := (203, ([(1, 30, 0), (0, 0, 4), (0, 0, 13)], [], false, [(none, [])]), [(18, [(0, 1, (1, 30, 0)), (1, 1, (0, 0, 4)), (2, 1, (0, 0, 13)), (3, 1, (0, -2147483648, 2147483647)), (4, 1, (2, 0, 0)), (6, 1, (0, 0, 64))], [], [], (8579, [(5, -132)])), (58, [(0, 1, (1, 30, 0)), (1, 1, (0, 0, 4)), (2, 1, (0, 0, 13)), (3, 1, (0, -2147483648, 2147483647)), (4, 1, (2, 0, 0)), (6, 1, (0, 0, 63)), (7, 1, (0, 0, 64))], [], [], (8577, [(5, -132), (6, -2)]))], 400)
def yD390 : List YD := yD_390 :: yD389
theorem yk_390 : ychk yKD (yct yCT0 yD389) xMT xFT yEX xm203 yD_390.2.1 yD_390.2.2.1 400 = true := by decide +kernel
-- IceBoatsModel.takes
def yD_391 : YD := (202, ([(1, 30, 0), (0, 0, 4), (0, 0, 13)], [], false, [(none, [])]), [], 400)
def yD391 : List YD := yD_391 :: yD390
theorem yk_391 : ychk yKD (yct yCT0 yD390) xMT xFT yEX xm202 yD_391.2.1 yD_391.2.2.1 400 = true := by decide +kernel
-- IceBoatsModel.keepsFar
def yD_392 : YD := (203, ([(1, 30, 0), (0, 0, 4), (0, 0, 14)], [], false, [(none, [])]), [(18, [(0, 1, (1, 30, 0)), (1, 1, (0, 0, 4)), (2, 1, (0, 0, 14)), (3, 1, (0, -2147483648, 2147483647)), (4, 1, (2, 0, 0)), (6, 1, (0, 0, 64))], [], [], (8579, [(5, -132)])), (58, [(0, 1, (1, 30, 0)), (1, 1, (0, 0, 4)), (2, 1, (0, 0, 14)), (3, 1, (0, -2147483648, 2147483647)), (4, 1, (2, 0, 0)), (6, 1, (0, 0, 63)), (7, 1, (0, 0, 64))], [], [], (8577, [(5, -132), (6, -2)]))], 400)
def yD392 : List YD := yD_392 :: yD391
theorem yk_392 : ychk yKD (yct yCT0 yD391) xMT xFT yEX xm203 yD_392.2.1 yD_392.2.2.1 400 = true := by decide +kernel
-- IceBoatsModel.takes
def yD_393 : YD := (202, ([(1, 30, 0), (0, 0, 4), (0, 0, 14)], [], false, [(none, [])]), [], 400)
def yD393 : List YD := yD_393 :: yD392
theorem yk_393 : ychk yKD (yct yCT0 yD392) xMT xFT yEX xm202 yD_393.2.1 yD_393.2.2.1 400 = true := by decide +kernel
-- IceBoatsModel.keepsFar
def yD_394 : YD := (203, ([(1, 30, 0), (0, 0, 4), (0, 0, 15)], [], false, [(none, [])]), [(18, [(0, 1, (1, 30, 0)), (1, 1, (0, 0, 4)), (2, 1, (0, 0, 15)), (3, 1, (0, -2147483648, 2147483647)), (4, 1, (2, 0, 0)), (6, 1, (0, 0, 64))], [], [], (8579, [(5, -132)])), (58, [(0, 1, (1, 30, 0)), (1, 1, (0, 0, 4)), (2, 1, (0, 0, 15)), (3, 1, (0, -2147483648, 2147483647)), (4, 1, (2, 0, 0)), (6, 1, (0, 0, 63)), (7, 1, (0, 0, 64))], [], [], (8577, [(5, -132), (6, -2)]))], 400)
def yD394 : List YD := yD_394 :: yD393
theorem yk_394 : ychk yKD (yct yCT0 yD393) xMT xFT yEX xm203 yD_394.2.1 yD_394.2.2.1 400 = true := by decide +kernel
-- IceBoatsModel.takes
def yD_395 : YD := (202, ([(1, 30, 0), (0, 0, 4), (0, 0, 15)], [], false, [(none, [])]), [], 400)
def yD395 : List YD := yD_395 :: yD394
theorem yk_395 : ychk yKD (yct yCT0 yD394) xMT xFT yEX xm202 yD_395.2.1 yD_395.2.2.1 400 = true := by decide +kernel
-- IceBoatsModel.keepsFar
def yD_396 : YD := (203, ([(1, 30, 0), (0, 0, 4), (0, 0, 16)], [], false, [(none, [])]), [(18, [(0, 1, (1, 30, 0)), (1, 1, (0, 0, 4)), (2, 1, (0, 0, 16)), (3, 1, (0, -2147483648, 2147483647)), (4, 1, (2, 0, 0)), (6, 1, (0, 0, 64))], [], [], (8579, [(5, -132)])), (58, [(0, 1, (1, 30, 0)), (1, 1, (0, 0, 4)), (2, 1, (0, 0, 16)), (3, 1, (0, -2147483648, 2147483647)), (4, 1, (2, 0, 0)), (6, 1, (0, 0, 63)), (7, 1, (0, 0, 64))], [], [], (8577, [(5, -132), (6, -2)]))], 400)
def yD396 : List YD := yD_396 :: yD395
theorem yk_396 : ychk yKD (yct yCT0 yD395) xMT xFT yEX xm203 yD_396.2.1 yD_396.2.2.1 400 = true := by decide +kernel
-- IceBoatsModel.takes
def yD_397 : YD := (202, ([(1, 30, 0), (0, 0, 4), (0, 0, 16)], [], false, [(none, [])]), [], 400)
def yD397 : List YD := yD_397 :: yD396
theorem yk_397 : ychk yKD (yct yCT0 yD396) xMT xFT yEX xm202 yD_397.2.1 yD_397.2.2.1 400 = true := by decide +kernel
-- IceBoatsModel.keepsFar
def yD_398 : YD := (203, ([(1, 30, 0), (0, 0, 4), (0, 0, 20)], [], false, [(none, [])]), [(18, [(0, 1, (1, 30, 0)), (1, 1, (0, 0, 4)), (2, 1, (0, 0, 20)), (3, 1, (0, -2147483648, 2147483647)), (4, 1, (2, 0, 0)), (6, 1, (0, 0, 64))], [], [], (8579, [(5, -132)])), (58, [(0, 1, (1, 30, 0)), (1, 1, (0, 0, 4)), (2, 1, (0, 0, 20)), (3, 1, (0, -2147483648, 2147483647)), (4, 1, (2, 0, 0)), (6, 1, (0, 0, 63)), (7, 1, (0, 0, 64))], [], [], (8577, [(5, -132), (6, -2)]))], 400)
def yD398 : List YD := yD_398 :: yD397
theorem yk_398 : ychk yKD (yct yCT0 yD397) xMT xFT yEX xm203 yD_398.2.1 yD_398.2.2.1 400 = true := by decide +kernel
-- IceBoatsModel.takes
def yD_399 : YD := (202, ([(1, 30, 0), (0, 0, 4), (0, 0, 20)], [], false, [(none, [])]), [], 400)
def yD399 : List YD := yD_399 :: yD398
theorem yk_399 : ychk yKD (yct yCT0 yD398) xMT xFT yEX xm202 yD_399.2.1 yD_399.2.2.1 400 = true := by decide +kernel
-- IceBoatsModel.keepsFar
def yD_400 : YD := (203, ([(1, 30, 0), (0, 0, 4), (0, 0, 21)], [], false, [(none, [])]), [(18, [(0, 1, (1, 30, 0)), (1, 1, (0, 0, 4)), (2, 1, (0, 0, 21)), (3, 1, (0, -2147483648, 2147483647)), (4, 1, (2, 0, 0)), (6, 1, (0, 0, 64))], [], [], (8579, [(5, -132)])), (58, [(0, 1, (1, 30, 0)), (1, 1, (0, 0, 4)), (2, 1, (0, 0, 21)), (3, 1, (0, -2147483648, 2147483647)), (4, 1, (2, 0, 0)), (6, 1, (0, 0, 63)), (7, 1, (0, 0, 64))], [], [], (8577, [(5, -132), (6, -2)]))], 400)
def yD400 : List YD := yD_400 :: yD399
theorem yk_400 : ychk yKD (yct yCT0 yD399) xMT xFT yEX xm203 yD_400.2.1 yD_400.2.2.1 400 = true := by decide +kernel
-- IceBoatsModel.takes
def yD_401 : YD := (202, ([(1, 30, 0), (0, 0, 4), (0, 0, 21)], [], false, [(none, [])]), [], 400)
def yD401 : List YD := yD_401 :: yD400
theorem yk_401 : ychk yKD (yct yCT0 yD400) xMT xFT yEX xm202 yD_401.2.1 yD_401.2.2.1 400 = true := by decide +kernel
-- IceBoatsModel.keepsFar
def yD_402 : YD := (203, ([(1, 30, 0), (0, 0, 4), (0, 0, 24)], [], false, [(none, [])]), [(18, [(0, 1, (1, 30, 0)), (1, 1, (0, 0, 4)), (2, 1, (0, 0, 24)), (3, 1, (0, -2147483648, 2147483647)), (4, 1, (2, 0, 0)), (6, 1, (0, 0, 64))], [], [], (8579, [(5, -132)])), (58, [(0, 1, (1, 30, 0)), (1, 1, (0, 0, 4)), (2, 1, (0, 0, 24)), (3, 1, (0, -2147483648, 2147483647)), (4, 1, (2, 0, 0)), (6, 1, (0, 0, 63)), (7, 1, (0, 0, 64))], [], [], (8577, [(5, -132), (6, -2)]))], 400)
def yD402 : List YD := yD_402 :: yD401
theorem yk_402 : ychk yKD (yct yCT0 yD401) xMT xFT yEX xm203 yD_402.2.1 yD_402.2.2.1 400 = true := by decide +kernel
-- IceBoatsModel.takes
def yD_403 : YD := (202, ([(1, 30, 0), (0, 0, 4), (0, 0, 24)], [], false, [(none, [])]), [], 400)
def yD403 : List YD := yD_403 :: yD402
theorem yk_403 : ychk yKD (yct yCT0 yD402) xMT xFT yEX xm202 yD_403.2.1 yD_403.2.2.1 400 = true := by decide +kernel
-- IceBoatsModel.keepsFar
def yD_404 : YD := (203, ([(1, 30, 0), (0, 0, 4), (0, 0, 36)], [], false, [(none, [])]), [(18, [(0, 1, (1, 30, 0)), (1, 1, (0, 0, 4)), (2, 1, (0, 0, 36)), (3, 1, (0, -2147483648, 2147483647)), (4, 1, (2, 0, 0)), (6, 1, (0, 0, 64))], [], [], (8579, [(5, -132)])), (58, [(0, 1, (1, 30, 0)), (1, 1, (0, 0, 4)), (2, 1, (0, 0, 36)), (3, 1, (0, -2147483648, 2147483647)), (4, 1, (2, 0, 0)), (6, 1, (0, 0, 63)), (7, 1, (0, 0, 64))], [], [], (8577, [(5, -132), (6, -2)]))], 400)
def yD404 : List YD := yD_404 :: yD403
theorem yk_404 : ychk yKD (yct yCT0 yD403) xMT xFT yEX xm203 yD_404.2.1 yD_404.2.2.1 400 = true := by decide +kernel
-- IceBoatsModel.takes
def yD_405 : YD := (202, ([(1, 30, 0), (0, 0, 4), (0, 0, 36)], [], false, [(none, [])]), [], 400)
def yD405 : List YD := yD_405 :: yD404
theorem yk_405 : ychk yKD (yct yCT0 yD404) xMT xFT yEX xm202 yD_405.2.1 yD_405.2.2.1 400 = true := by decide +kernel
-- IceBoatsModel.keepsFar
def yD_406 : YD := (203, ([(1, 30, 0), (0, 0, 4), (0, 0, 39)], [], false, [(none, [])]), [(18, [(0, 1, (1, 30, 0)), (1, 1, (0, 0, 4)), (2, 1, (0, 0, 39)), (3, 1, (0, -2147483648, 2147483647)), (4, 1, (2, 0, 0)), (6, 1, (0, 0, 64))], [], [], (8579, [(5, -132)])), (58, [(0, 1, (1, 30, 0)), (1, 1, (0, 0, 4)), (2, 1, (0, 0, 39)), (3, 1, (0, -2147483648, 2147483647)), (4, 1, (2, 0, 0)), (6, 1, (0, 0, 63)), (7, 1, (0, 0, 64))], [], [], (8577, [(5, -132), (6, -2)]))], 400)
def yD406 : List YD := yD_406 :: yD405
theorem yk_406 : ychk yKD (yct yCT0 yD405) xMT xFT yEX xm203 yD_406.2.1 yD_406.2.2.1 400 = true := by decide +kernel
-- IceBoatsModel.takes
def yD_407 : YD := (202, ([(1, 30, 0), (0, 0, 4), (0, 0, 39)], [], false, [(none, [])]), [], 400)
def yD407 : List YD := yD_407 :: yD406
theorem yk_407 : ychk yKD (yct yCT0 yD406) xMT xFT yEX xm202 yD_407.2.1 yD_407.2.2.1 400 = true := by decide +kernel
-- IceBoatsModel.hears
def yD_408 : YD := (201, ([(1, 30, 0), (0, 0, 4)], [], false, [(some (.inr (0, [])), []), (some (.inr (1, [])), [])]), [(51, [(0, 1, (1, 30, 0)), (1, 1, (0, 0, 4)), (2, 1, (0, -2147483648, 2147483647)), (3, 1, (0, 0, 39)), (4, 1, (0, 0, 40))], [(0, 6, (0, 0, 999)), (0, 36, (0, 1, 40)), (0, 42, (1, 63, 0))], [(-1, [(3, -1), (6, 1)])], (81, [(4, -2)])), (51, [(0, 1, (1, 30, 0)), (1, 1, (0, 0, 4)), (2, 1, (0, 0, 0)), (3, 1, (0, -9, -9)), (4, 1, (0, 0, 40))], [(0, 36, (0, 0, 40))], [(-1, [(3, -1), (5, 1)])], (81, [(4, -2)])), (8, [(0, 1, (1, 30, 0)), (1, 1, (0, 0, 4)), (2, 1, (0, -2147483648, 2147483647)), (3, 1, (0, 0, 39)), (4, 1, (0, 1, 40))], [(0, 6, (0, 0, 999)), (0, 36, (0, 1, 40)), (0, 42, (1, 63, 0))], [(-1, [(3, -1), (6, 1)])], (163, [(4, -2)])), (8, [(0, 1, (1, 30, 0)), (1, 1, (0, 0, 4)), (2, 1, (0, 0, 0)), (3, 1, (0, -9, -9)), (4, 1, (0, 0, 40))], [], [], (163, [(4, -2)]))], 400)
def yD408 : List YD := yD_408 :: yD407
theorem yk_408 : ychk yKD (yct yCT0 yD407) xMT xFT yEX xm201 yD_408.2.1 yD_408.2.2.1 400 = true := by decide +kernel
-- IceBoatsModel.nearer
def yD_409 : YD := (204, ([(1, 30, 0), (0, 0, 5), (0, 0, 63)], [], true, [(some (.inl (0, 0, 4)), [])]), [(13, [(0, 1, (1, 30, 0)), (1, 1, (0, 0, 5)), (2, 1, (0, 0, 63)), (3, 1, (0, 0, 63)), (4, 1, (0, 1, 5))], [(0, 23, (1, 46, 0))], [], (11, [(4, -2)]))], 400)
def yD409 : List YD := yD_409 :: yD408
theorem yk_409 : ychk yKD (yct yCT0 yD408) xMT xFT yEX xm204 yD_409.2.1 yD_409.2.2.1 400 = true := by decide +kernel
-- IceBoatsModel.keepsFar
def yD_410 : YD := (203, ([(1, 30, 0), (0, 0, 5), (0, 0, 0)], [], false, [(none, [])]), [(18, [(0, 1, (1, 30, 0)), (1, 1, (0, 0, 5)), (2, 1, (0, 0, 0)), (3, 1, (0, -2147483648, 2147483647)), (4, 1, (2, 0, 0)), (6, 1, (0, 0, 64))], [], [], (8579, [(5, -132)])), (58, [(0, 1, (1, 30, 0)), (1, 1, (0, 0, 5)), (2, 1, (0, 0, 0)), (3, 1, (0, -2147483648, 2147483647)), (4, 1, (2, 0, 0)), (6, 1, (0, 0, 63)), (7, 1, (0, 0, 64))], [], [], (8577, [(5, -132), (6, -2)]))], 400)
def yD410 : List YD := yD_410 :: yD409
theorem yk_410 : ychk yKD (yct yCT0 yD409) xMT xFT yEX xm203 yD_410.2.1 yD_410.2.2.1 400 = true := by decide +kernel
-- IceBoatsModel.takes
def yD_411 : YD := (202, ([(1, 30, 0), (0, 0, 5), (0, 0, 0)], [], false, [(none, [])]), [], 400)
def yD411 : List YD := yD_411 :: yD410
theorem yk_411 : ychk yKD (yct yCT0 yD410) xMT xFT yEX xm202 yD_411.2.1 yD_411.2.2.1 400 = true := by decide +kernel
-- IceBoatsModel.keepsFar
def yD_412 : YD := (203, ([(1, 30, 0), (0, 0, 5), (0, 0, 1)], [], false, [(none, [])]), [(18, [(0, 1, (1, 30, 0)), (1, 1, (0, 0, 5)), (2, 1, (0, 0, 1)), (3, 1, (0, -2147483648, 2147483647)), (4, 1, (2, 0, 0)), (6, 1, (0, 0, 64))], [], [], (8579, [(5, -132)])), (58, [(0, 1, (1, 30, 0)), (1, 1, (0, 0, 5)), (2, 1, (0, 0, 1)), (3, 1, (0, -2147483648, 2147483647)), (4, 1, (2, 0, 0)), (6, 1, (0, 0, 63)), (7, 1, (0, 0, 64))], [], [], (8577, [(5, -132), (6, -2)]))], 400)
def yD412 : List YD := yD_412 :: yD411
theorem yk_412 : ychk yKD (yct yCT0 yD411) xMT xFT yEX xm203 yD_412.2.1 yD_412.2.2.1 400 = true := by decide +kernel
-- IceBoatsModel.takes
def yD_413 : YD := (202, ([(1, 30, 0), (0, 0, 5), (0, 0, 1)], [], false, [(none, [])]), [], 400)
def yD413 : List YD := yD_413 :: yD412
theorem yk_413 : ychk yKD (yct yCT0 yD412) xMT xFT yEX xm202 yD_413.2.1 yD_413.2.2.1 400 = true := by decide +kernel
-- IceBoatsModel.keepsFar
def yD_414 : YD := (203, ([(1, 30, 0), (0, 0, 5), (0, 0, 3)], [], false, [(none, [])]), [(18, [(0, 1, (1, 30, 0)), (1, 1, (0, 0, 5)), (2, 1, (0, 0, 3)), (3, 1, (0, -2147483648, 2147483647)), (4, 1, (2, 0, 0)), (6, 1, (0, 0, 64))], [], [], (8579, [(5, -132)])), (58, [(0, 1, (1, 30, 0)), (1, 1, (0, 0, 5)), (2, 1, (0, 0, 3)), (3, 1, (0, -2147483648, 2147483647)), (4, 1, (2, 0, 0)), (6, 1, (0, 0, 63)), (7, 1, (0, 0, 64))], [], [], (8577, [(5, -132), (6, -2)]))], 400)
def yD414 : List YD := yD_414 :: yD413
theorem yk_414 : ychk yKD (yct yCT0 yD413) xMT xFT yEX xm203 yD_414.2.1 yD_414.2.2.1 400 = true := by decide +kernel
-- IceBoatsModel.takes
def yD_415 : YD := (202, ([(1, 30, 0), (0, 0, 5), (0, 0, 3)], [], false, [(none, [])]), [], 400)
def yD415 : List YD := yD_415 :: yD414
theorem yk_415 : ychk yKD (yct yCT0 yD414) xMT xFT yEX xm202 yD_415.2.1 yD_415.2.2.1 400 = true := by decide +kernel
-- IceBoatsModel.keepsFar
def yD_416 : YD := (203, ([(1, 30, 0), (0, 0, 5), (0, 0, 5)], [], false, [(none, [])]), [(18, [(0, 1, (1, 30, 0)), (1, 1, (0, 0, 5)), (2, 1, (0, 0, 5)), (3, 1, (0, -2147483648, 2147483647)), (4, 1, (2, 0, 0)), (6, 1, (0, 0, 64))], [], [], (8579, [(5, -132)])), (58, [(0, 1, (1, 30, 0)), (1, 1, (0, 0, 5)), (2, 1, (0, 0, 5)), (3, 1, (0, -2147483648, 2147483647)), (4, 1, (2, 0, 0)), (6, 1, (0, 0, 63)), (7, 1, (0, 0, 64))], [], [], (8577, [(5, -132), (6, -2)]))], 400)
def yD416 : List YD := yD_416 :: yD415
theorem yk_416 : ychk yKD (yct yCT0 yD415) xMT xFT yEX xm203 yD_416.2.1 yD_416.2.2.1 400 = true := by decide +kernel
-- IceBoatsModel.takes
def yD_417 : YD := (202, ([(1, 30, 0), (0, 0, 5), (0, 0, 5)], [], false, [(none, [])]), [], 400)
def yD417 : List YD := yD_417 :: yD416
theorem yk_417 : ychk yKD (yct yCT0 yD416) xMT xFT yEX xm202 yD_417.2.1 yD_417.2.2.1 400 = true := by decide +kernel
-- IceBoatsModel.keepsFar
def yD_418 : YD := (203, ([(1, 30, 0), (0, 0, 5), (0, 0, 6)], [], false, [(none, [])]), [(18, [(0, 1, (1, 30, 0)), (1, 1, (0, 0, 5)), (2, 1, (0, 0, 6)), (3, 1, (0, -2147483648, 2147483647)), (4, 1, (2, 0, 0)), (6, 1, (0, 0, 64))], [], [], (8579, [(5, -132)])), (58, [(0, 1, (1, 30, 0)), (1, 1, (0, 0, 5)), (2, 1, (0, 0, 6)), (3, 1, (0, -2147483648, 2147483647)), (4, 1, (2, 0, 0)), (6, 1, (0, 0, 63)), (7, 1, (0, 0, 64))], [], [], (8577, [(5, -132), (6, -2)]))], 400)
def yD418 : List YD := yD_418 :: yD417
theorem yk_418 : ychk yKD (yct yCT0 yD417) xMT xFT yEX xm203 yD_418.2.1 yD_418.2.2.1 400 = true := by decide +kernel
-- IceBoatsModel.takes
def yD_419 : YD := (202, ([(1, 30, 0), (0, 0, 5), (0, 0, 6)], [], false, [(none, [])]), [], 400)
def yD419 : List YD := yD_419 :: yD418
theorem yk_419 : ychk yKD (yct yCT0 yD418) xMT xFT yEX xm202 yD_419.2.1 yD_419.2.2.1 400 = true := by decide +kernel
-- IceBoatsModel.keepsFar
def yD_420 : YD := (203, ([(1, 30, 0), (0, 0, 5), (0, 0, 7)], [], false, [(none, [])]), [(18, [(0, 1, (1, 30, 0)), (1, 1, (0, 0, 5)), (2, 1, (0, 0, 7)), (3, 1, (0, -2147483648, 2147483647)), (4, 1, (2, 0, 0)), (6, 1, (0, 0, 64))], [], [], (8579, [(5, -132)])), (58, [(0, 1, (1, 30, 0)), (1, 1, (0, 0, 5)), (2, 1, (0, 0, 7)), (3, 1, (0, -2147483648, 2147483647)), (4, 1, (2, 0, 0)), (6, 1, (0, 0, 63)), (7, 1, (0, 0, 64))], [], [], (8577, [(5, -132), (6, -2)]))], 400)
def yD420 : List YD := yD_420 :: yD419
theorem yk_420 : ychk yKD (yct yCT0 yD419) xMT xFT yEX xm203 yD_420.2.1 yD_420.2.2.1 400 = true := by decide +kernel
-- IceBoatsModel.takes
def yD_421 : YD := (202, ([(1, 30, 0), (0, 0, 5), (0, 0, 7)], [], false, [(none, [])]), [], 400)
def yD421 : List YD := yD_421 :: yD420
theorem yk_421 : ychk yKD (yct yCT0 yD420) xMT xFT yEX xm202 yD_421.2.1 yD_421.2.2.1 400 = true := by decide +kernel
-- IceBoatsModel.keepsFar
def yD_422 : YD := (203, ([(1, 30, 0), (0, 0, 5), (0, 0, 9)], [], false, [(none, [])]), [(18, [(0, 1, (1, 30, 0)), (1, 1, (0, 0, 5)), (2, 1, (0, 0, 9)), (3, 1, (0, -2147483648, 2147483647)), (4, 1, (2, 0, 0)), (6, 1, (0, 0, 64))], [], [], (8579, [(5, -132)])), (58, [(0, 1, (1, 30, 0)), (1, 1, (0, 0, 5)), (2, 1, (0, 0, 9)), (3, 1, (0, -2147483648, 2147483647)), (4, 1, (2, 0, 0)), (6, 1, (0, 0, 63)), (7, 1, (0, 0, 64))], [], [], (8577, [(5, -132), (6, -2)]))], 400)
def yD422 : List YD := yD_422 :: yD421
theorem yk_422 : ychk yKD (yct yCT0 yD421) xMT xFT yEX xm203 yD_422.2.1 yD_422.2.2.1 400 = true := by decide +kernel
-- IceBoatsModel.takes
def yD_423 : YD := (202, ([(1, 30, 0), (0, 0, 5), (0, 0, 9)], [], false, [(none, [])]), [], 400)
def yD423 : List YD := yD_423 :: yD422
theorem yk_423 : ychk yKD (yct yCT0 yD422) xMT xFT yEX xm202 yD_423.2.1 yD_423.2.2.1 400 = true := by decide +kernel
-- IceBoatsModel.keepsFar
def yD_424 : YD := (203, ([(1, 30, 0), (0, 0, 5), (0, 0, 13)], [], false, [(none, [])]), [(18, [(0, 1, (1, 30, 0)), (1, 1, (0, 0, 5)), (2, 1, (0, 0, 13)), (3, 1, (0, -2147483648, 2147483647)), (4, 1, (2, 0, 0)), (6, 1, (0, 0, 64))], [], [], (8579, [(5, -132)])), (58, [(0, 1, (1, 30, 0)), (1, 1, (0, 0, 5)), (2, 1, (0, 0, 13)), (3, 1, (0, -2147483648, 2147483647)), (4, 1, (2, 0, 0)), (6, 1, (0, 0, 63)), (7, 1, (0, 0, 64))], [], [], (8577, [(5, -132), (6, -2)]))], 400)
def yD424 : List YD := yD_424 :: yD423
theorem yk_424 : ychk yKD (yct yCT0 yD423) xMT xFT yEX xm203 yD_424.2.1 yD_424.2.2.1 400 = true := by decide +kernel
-- IceBoatsModel.takes
def yD_425 : YD := (202, ([(1, 30, 0), (0, 0, 5), (0, 0, 13)], [], false, [(none, [])]), [], 400)
def yD425 : List YD := yD_425 :: yD424
theorem yk_425 : ychk yKD (yct yCT0 yD424) xMT xFT yEX xm202 yD_425.2.1 yD_425.2.2.1 400 = true := by decide +kernel
-- IceBoatsModel.keepsFar
def yD_426 : YD := (203, ([(1, 30, 0), (0, 0, 5), (0, 0, 14)], [], false, [(none, [])]), [(18, [(0, 1, (1, 30, 0)), (1, 1, (0, 0, 5)), (2, 1, (0, 0, 14)), (3, 1, (0, -2147483648, 2147483647)), (4, 1, (2, 0, 0)), (6, 1, (0, 0, 64))], [], [], (8579, [(5, -132)])), (58, [(0, 1, (1, 30, 0)), (1, 1, (0, 0, 5)), (2, 1, (0, 0, 14)), (3, 1, (0, -2147483648, 2147483647)), (4, 1, (2, 0, 0)), (6, 1, (0, 0, 63)), (7, 1, (0, 0, 64))], [], [], (8577, [(5, -132), (6, -2)]))], 400)
def yD426 : List YD := yD_426 :: yD425
theorem yk_426 : ychk yKD (yct yCT0 yD425) xMT xFT yEX xm203 yD_426.2.1 yD_426.2.2.1 400 = true := by decide +kernel
-- IceBoatsModel.takes
def yD_427 : YD := (202, ([(1, 30, 0), (0, 0, 5), (0, 0, 14)], [], false, [(none, [])]), [], 400)
def yD427 : List YD := yD_427 :: yD426
theorem yk_427 : ychk yKD (yct yCT0 yD426) xMT xFT yEX xm202 yD_427.2.1 yD_427.2.2.1 400 = true := by decide +kernel
-- IceBoatsModel.keepsFar
def yD_428 : YD := (203, ([(1, 30, 0), (0, 0, 5), (0, 0, 15)], [], false, [(none, [])]), [(18, [(0, 1, (1, 30, 0)), (1, 1, (0, 0, 5)), (2, 1, (0, 0, 15)), (3, 1, (0, -2147483648, 2147483647)), (4, 1, (2, 0, 0)), (6, 1, (0, 0, 64))], [], [], (8579, [(5, -132)])), (58, [(0, 1, (1, 30, 0)), (1, 1, (0, 0, 5)), (2, 1, (0, 0, 15)), (3, 1, (0, -2147483648, 2147483647)), (4, 1, (2, 0, 0)), (6, 1, (0, 0, 63)), (7, 1, (0, 0, 64))], [], [], (8577, [(5, -132), (6, -2)]))], 400)
def yD428 : List YD := yD_428 :: yD427
theorem yk_428 : ychk yKD (yct yCT0 yD427) xMT xFT yEX xm203 yD_428.2.1 yD_428.2.2.1 400 = true := by decide +kernel
-- IceBoatsModel.takes
def yD_429 : YD := (202, ([(1, 30, 0), (0, 0, 5), (0, 0, 15)], [], false, [(none, [])]), [], 400)
def yD429 : List YD := yD_429 :: yD428
theorem yk_429 : ychk yKD (yct yCT0 yD428) xMT xFT yEX xm202 yD_429.2.1 yD_429.2.2.1 400 = true := by decide +kernel
-- IceBoatsModel.keepsFar
def yD_430 : YD := (203, ([(1, 30, 0), (0, 0, 5), (0, 0, 16)], [], false, [(none, [])]), [(18, [(0, 1, (1, 30, 0)), (1, 1, (0, 0, 5)), (2, 1, (0, 0, 16)), (3, 1, (0, -2147483648, 2147483647)), (4, 1, (2, 0, 0)), (6, 1, (0, 0, 64))], [], [], (8579, [(5, -132)])), (58, [(0, 1, (1, 30, 0)), (1, 1, (0, 0, 5)), (2, 1, (0, 0, 16)), (3, 1, (0, -2147483648, 2147483647)), (4, 1, (2, 0, 0)), (6, 1, (0, 0, 63)), (7, 1, (0, 0, 64))], [], [], (8577, [(5, -132), (6, -2)]))], 400)
def yD430 : List YD := yD_430 :: yD429
theorem yk_430 : ychk yKD (yct yCT0 yD429) xMT xFT yEX xm203 yD_430.2.1 yD_430.2.2.1 400 = true := by decide +kernel
-- IceBoatsModel.takes
def yD_431 : YD := (202, ([(1, 30, 0), (0, 0, 5), (0, 0, 16)], [], false, [(none, [])]), [], 400)
def yD431 : List YD := yD_431 :: yD430
theorem yk_431 : ychk yKD (yct yCT0 yD430) xMT xFT yEX xm202 yD_431.2.1 yD_431.2.2.1 400 = true := by decide +kernel
-- IceBoatsModel.keepsFar
def yD_432 : YD := (203, ([(1, 30, 0), (0, 0, 5), (0, 0, 20)], [], false, [(none, [])]), [(18, [(0, 1, (1, 30, 0)), (1, 1, (0, 0, 5)), (2, 1, (0, 0, 20)), (3, 1, (0, -2147483648, 2147483647)), (4, 1, (2, 0, 0)), (6, 1, (0, 0, 64))], [], [], (8579, [(5, -132)])), (58, [(0, 1, (1, 30, 0)), (1, 1, (0, 0, 5)), (2, 1, (0, 0, 20)), (3, 1, (0, -2147483648, 2147483647)), (4, 1, (2, 0, 0)), (6, 1, (0, 0, 63)), (7, 1, (0, 0, 64))], [], [], (8577, [(5, -132), (6, -2)]))], 400)
def yD432 : List YD := yD_432 :: yD431
theorem yk_432 : ychk yKD (yct yCT0 yD431) xMT xFT yEX xm203 yD_432.2.1 yD_432.2.2.1 400 = true := by decide +kernel
-- IceBoatsModel.takes
def yD_433 : YD := (202, ([(1, 30, 0), (0, 0, 5), (0, 0, 20)], [], false, [(none, [])]), [], 400)
def yD433 : List YD := yD_433 :: yD432
theorem yk_433 : ychk yKD (yct yCT0 yD432) xMT xFT yEX xm202 yD_433.2.1 yD_433.2.2.1 400 = true := by decide +kernel
-- IceBoatsModel.keepsFar
def yD_434 : YD := (203, ([(1, 30, 0), (0, 0, 5), (0, 0, 21)], [], false, [(none, [])]), [(18, [(0, 1, (1, 30, 0)), (1, 1, (0, 0, 5)), (2, 1, (0, 0, 21)), (3, 1, (0, -2147483648, 2147483647)), (4, 1, (2, 0, 0)), (6, 1, (0, 0, 64))], [], [], (8579, [(5, -132)])), (58, [(0, 1, (1, 30, 0)), (1, 1, (0, 0, 5)), (2, 1, (0, 0, 21)), (3, 1, (0, -2147483648, 2147483647)), (4, 1, (2, 0, 0)), (6, 1, (0, 0, 63)), (7, 1, (0, 0, 64))], [], [], (8577, [(5, -132), (6, -2)]))], 400)
def yD434 : List YD := yD_434 :: yD433
theorem yk_434 : ychk yKD (yct yCT0 yD433) xMT xFT yEX xm203 yD_434.2.1 yD_434.2.2.1 400 = true := by decide +kernel
-- IceBoatsModel.takes
def yD_435 : YD := (202, ([(1, 30, 0), (0, 0, 5), (0, 0, 21)], [], false, [(none, [])]), [], 400)
def yD435 : List YD := yD_435 :: yD434
theorem yk_435 : ychk yKD (yct yCT0 yD434) xMT xFT yEX xm202 yD_435.2.1 yD_435.2.2.1 400 = true := by decide +kernel
-- IceBoatsModel.keepsFar
def yD_436 : YD := (203, ([(1, 30, 0), (0, 0, 5), (0, 0, 24)], [], false, [(none, [])]), [(18, [(0, 1, (1, 30, 0)), (1, 1, (0, 0, 5)), (2, 1, (0, 0, 24)), (3, 1, (0, -2147483648, 2147483647)), (4, 1, (2, 0, 0)), (6, 1, (0, 0, 64))], [], [], (8579, [(5, -132)])), (58, [(0, 1, (1, 30, 0)), (1, 1, (0, 0, 5)), (2, 1, (0, 0, 24)), (3, 1, (0, -2147483648, 2147483647)), (4, 1, (2, 0, 0)), (6, 1, (0, 0, 63)), (7, 1, (0, 0, 64))], [], [], (8577, [(5, -132), (6, -2)]))], 400)
def yD436 : List YD := yD_436 :: yD435
theorem yk_436 : ychk yKD (yct yCT0 yD435) xMT xFT yEX xm203 yD_436.2.1 yD_436.2.2.1 400 = true := by decide +kernel
-- IceBoatsModel.takes
def yD_437 : YD := (202, ([(1, 30, 0), (0, 0, 5), (0, 0, 24)], [], false, [(none, [])]), [], 400)
def yD437 : List YD := yD_437 :: yD436
theorem yk_437 : ychk yKD (yct yCT0 yD436) xMT xFT yEX xm202 yD_437.2.1 yD_437.2.2.1 400 = true := by decide +kernel
-- IceBoatsModel.keepsFar
def yD_438 : YD := (203, ([(1, 30, 0), (0, 0, 5), (0, 0, 36)], [], false, [(none, [])]), [(18, [(0, 1, (1, 30, 0)), (1, 1, (0, 0, 5)), (2, 1, (0, 0, 36)), (3, 1, (0, -2147483648, 2147483647)), (4, 1, (2, 0, 0)), (6, 1, (0, 0, 64))], [], [], (8579, [(5, -132)])), (58, [(0, 1, (1, 30, 0)), (1, 1, (0, 0, 5)), (2, 1, (0, 0, 36)), (3, 1, (0, -2147483648, 2147483647)), (4, 1, (2, 0, 0)), (6, 1, (0, 0, 63)), (7, 1, (0, 0, 64))], [], [], (8577, [(5, -132), (6, -2)]))], 400)
def yD438 : List YD := yD_438 :: yD437
theorem yk_438 : ychk yKD (yct yCT0 yD437) xMT xFT yEX xm203 yD_438.2.1 yD_438.2.2.1 400 = true := by decide +kernel
-- IceBoatsModel.takes
def yD_439 : YD := (202, ([(1, 30, 0), (0, 0, 5), (0, 0, 36)], [], false, [(none, [])]), [], 400)
def yD439 : List YD := yD_439 :: yD438
theorem yk_439 : ychk yKD (yct yCT0 yD438) xMT xFT yEX xm202 yD_439.2.1 yD_439.2.2.1 400 = true := by decide +kernel
-- IceBoatsModel.keepsFar
def yD_440 : YD := (203, ([(1, 30, 0), (0, 0, 5), (0, 0, 39)], [], false, [(none, [])]), [(18, [(0, 1, (1, 30, 0)), (1, 1, (0, 0, 5)), (2, 1, (0, 0, 39)), (3, 1, (0, -2147483648, 2147483647)), (4, 1, (2, 0, 0)), (6, 1, (0, 0, 64))], [], [], (8579, [(5, -132)])), (58, [(0, 1, (1, 30, 0)), (1, 1, (0, 0, 5)), (2, 1, (0, 0, 39)), (3, 1, (0, -2147483648, 2147483647)), (4, 1, (2, 0, 0)), (6, 1, (0, 0, 63)), (7, 1, (0, 0, 64))], [], [], (8577, [(5, -132), (6, -2)]))], 400)
def yD440 : List YD := yD_440 :: yD439
theorem yk_440 : ychk yKD (yct yCT0 yD439) xMT xFT yEX xm203 yD_440.2.1 yD_440.2.2.1 400 = true := by decide +kernel
-- IceBoatsModel.takes
def yD_441 : YD := (202, ([(1, 30, 0), (0, 0, 5), (0, 0, 39)], [], false, [(none, [])]), [], 400)
def yD441 : List YD := yD_441 :: yD440
theorem yk_441 : ychk yKD (yct yCT0 yD440) xMT xFT yEX xm202 yD_441.2.1 yD_441.2.2.1 400 = true := by decide +kernel
-- IceBoatsModel.hears
def yD_442 : YD := (201, ([(1, 30, 0), (0, 0, 5)], [], false, [(some (.inr (0, [])), []), (some (.inr (1, [])), [])]), [(51, [(0, 1, (1, 30, 0)), (1, 1, (0, 0, 5)), (2, 1, (0, -2147483648, 2147483647)), (3, 1, (0, 0, 39)), (4, 1, (0, 0, 40))], [(0, 6, (0, 0, 999)), (0, 36, (0, 1, 40)), (0, 42, (1, 63, 0))], [(-1, [(3, -1), (6, 1)])], (81, [(4, -2)])), (51, [(0, 1, (1, 30, 0)), (1, 1, (0, 0, 5)), (2, 1, (0, 0, 0)), (3, 1, (0, -9, -9)), (4, 1, (0, 0, 40))], [(0, 36, (0, 0, 40))], [(-1, [(3, -1), (5, 1)])], (81, [(4, -2)])), (8, [(0, 1, (1, 30, 0)), (1, 1, (0, 0, 5)), (2, 1, (0, -2147483648, 2147483647)), (3, 1, (0, 0, 39)), (4, 1, (0, 1, 40))], [(0, 6, (0, 0, 999)), (0, 36, (0, 1, 40)), (0, 42, (1, 63, 0))], [(-1, [(3, -1), (6, 1)])], (163, [(4, -2)])), (8, [(0, 1, (1, 30, 0)), (1, 1, (0, 0, 5)), (2, 1, (0, 0, 0)), (3, 1, (0, -9, -9)), (4, 1, (0, 0, 40))], [], [], (163, [(4, -2)]))], 400)
def yD442 : List YD := yD_442 :: yD441
theorem yk_442 : ychk yKD (yct yCT0 yD441) xMT xFT yEX xm201 yD_442.2.1 yD_442.2.2.1 400 = true := by decide +kernel
-- IceBoatsModel.tick
def yD_443 : YD := (198, ([(1, 30, 0)], [], false, [(some (.inl (0, -2147483648, 2147483647)), [])]), [(25, [(0, 1, (1, 30, 0)), (1, 1, (0, 0, 6))], [], [], (41, [(1, -2)])), (54, [(0, 1, (1, 30, 0)), (1, 1, (0, -2147483648, 2147483647)), (2, 1, (0, 0, 6))], [], [], (27, [(2, -2)])), (76, [(0, 1, (1, 30, 0)), (1, 1, (0, -2147483648, 2147483647)), (2, 1, (0, 0, 6))], [], [], (13, [(2, -2)]))], 400)
def yD443 : List YD := yD_443 :: yD442
theorem yk_443 : ychk yKD (yct yCT0 yD442) xMT xFT yEX xm198 yD_443.2.1 yD_443.2.2.1 400 = true := by decide +kernel
-- IceBoatsModel.look
def yD_444 : YD := (207, ([(1, 30, 0), (0, -2147483648, 2147483647)], [], false, [(some (.inr (-4, [])), [(0, [(1, 1)]), (5, [(1, -1)])]), (some (.inr (-2, [])), [(0, [(1, 1)]), (5, [(1, -1)])]), (some (.inl (0, 0, 39)), [(0, [(1, 1)]), (5, [(1, -1)])]), (some (.inr (-1, [])), [(-6, [(1, 1)])]), (some (.inr (-1, [])), [(-1, [(1, -1)])])]), [], 400)
def yD444 : List YD := yD_444 :: yD443
theorem yk_444 : ychk yKD (yct yCT0 yD443) xMT xFT yEX xm207 yD_444.2.1 yD_444.2.2.1 400 = true := by decide +kernel
-- IceBoatsModel.isLook
def yD_445 : YD := (209, ([(1, 30, 0), (0, -2147483648, 2147483647)], [(0, 30)], true, [(some (.inr (0, [])), [(-1, [(1, -1)])]), (some (.inr (0, [])), [(0, [(1, 1)]), (0, [(1, 1), (2, -1)])]), (some (.inr (1, [])), [(-1, [(1, -1), (2, 1)]), (0, [(1, 1)]), (39, [(1, -1)])])]), [], 400)
def yD445 : List YD := yD_445 :: yD444
theorem yk_445 : ychk yKD (yct yCT0 yD444) xMT xFT yEX xm209 yD_445.2.1 yD_445.2.2.1 400 = true := by decide +kernel
-- IceBoatsModel.lookTells
def yD_446 : YD := (210, ([(1, 30, 0), (0, 0, 39), (0, 0, 3)], [], true, [(some (.inl (0, 0, 63)), [(0, [(2, -1)])]), (some (.inl (0, -2147483648, 2147483647)), [(-1, [(2, 1)]), (1, [(2, -1)])]), (some (.inl (0, -2147483648, 2147483647)), [(-2, [(2, 1)]), (2, [(2, -1)])]), (some (.inl (0, -2147483648, 2147483647)), [(-3, [(2, 1)])])]), [], 400)
def yD446 : List YD := yD_446 :: yD445
theorem yk_446 : ychk yKD (yct yCT0 yD445) xMT xFT yEX xm210 yD_446.2.1 yD_446.2.2.1 400 = true := by decide +kernel
-- IceBoatsModel.looked
def yD_447 : YD := (208, ([(1, 30, 0), (0, -2147483648, 2147483647), (0, -2147483648, 2147483647)], [], false, [(some (.inr (-1, [])), [(-1, [(2, -1)]), (0, [(1, 1)]), (39, [(1, -1)])]), (some (.inr (-1, [])), [(-4, [(2, 1)]), (0, [(1, 1)]), (39, [(1, -1)])]), (some (.inr (1, [])), [(-3, [(2, 1)]), (0, [(1, 1)]), (3, [(2, -1)]), (39, [(1, -1)])]), (some (.inr (1, [])), [(-2, [(2, 1)]), (0, [(1, 1)]), (2, [(2, -1)]), (39, [(1, -1)])]), (some (.inr (1, [])), [(-1, [(2, 1)]), (0, [(1, 1)]), (1, [(2, -1)]), (39, [(1, -1)])]), (some (.inr (1, [])), [(0, [(1, 1)]), (0, [(2, -1)]), (0, [(2, 1)]), (39, [(1, -1)])]), (some (.inr (-1, [])), [(0, [(1, 1)])]), (some (.inr (-1, [])), [(-1, [(1, -1)])])]), [], 400)
def yD447 : List YD := yD_447 :: yD446
theorem yk_447 : ychk yKD (yct yCT0 yD446) xMT xFT yEX xm208 yD_447.2.1 yD_447.2.2.1 400 = true := by decide +kernel
-- IceBoatsModel.match
def yD_448 : YD := (211, ([(1, 30, 0), (0, -2147483648, 2147483647)], [], false, [(some (.inl (0, -2147483648, 2147483647)), [])]), [(14, [(0, 1, (1, 30, 0)), (1, 1, (0, 0, 5)), (2, 1, (0, -9, 39)), (3, 1, (0, 0, 40))], [], [], (211, [(3, -2)])), (69, [(0, 1, (1, 30, 0)), (1, 1, (0, 0, 5)), (2, 1, (0, 0, 39)), (3, 1, (2, 0, 0)), (5, 1, (0, 0, 64))], [(0, 6, (0, 0, 999)), (0, 30, (0, 0, 40)), (0, 34, (1, 56, 0))], [], (129, [(4, -2)]))], 400)
def yD448 : List YD := yD_448 :: yD447
theorem yk_448 : ychk yKD (yct yCT0 yD447) xMT xFT yEX xm211 yD_448.2.1 yD_448.2.2.1 400 = true := by decide +kernel
-- IceBoatsModel.home
def yD_449 : YD := (212, ([(1, 30, 0), (0, -2147483648, 2147483647)], [], false, [(some (.inr (-4, [])), [(0, [(1, 1)]), (5, [(1, -1)])]), (some (.inr (1, [])), [(0, [(1, 1)]), (5, [(1, -1)])]), (some (.inr (-1, [])), [(-6, [(1, 1)])]), (some (.inr (-1, [])), [(-1, [(1, -1)])])]), [], 400)
def yD449 : List YD := yD_449 :: yD448
theorem yk_449 : ychk yKD (yct yCT0 yD448) xMT xFT yEX xm212 yD_449.2.1 yD_449.2.2.1 400 = true := by decide +kernel
-- IceBoatsModel.isSaid
def yD_450 : YD := (214, ([(1, 30, 0), (0, -2147483648, 2147483647), (0, -2147483648, 2147483647)], [(0, 30)], true, [(some (.inr (1, [])), [(-2, [(1, 1)]), (-1, [(2, -1), (3, 1)]), (0, [(2, 1)]), (2, [(1, -1)]), (39, [(2, -1)])]), (some (.inr (0, [])), [(-2, [(1, 1)]), (0, [(2, 1)]), (0, [(2, 1), (3, -1)]), (2, [(1, -1)])]), (some (.inr (0, [])), [(-2, [(1, 1)]), (-1, [(2, -1)]), (2, [(1, -1)])]), (some (.inr (1, [])), [(-3, [(1, 1)]), (0, [(2, 1)]), (3, [(1, -1)]), (4, [(2, -1)])]), (some (.inr (0, [])), [(-5, [(2, 1)]), (-3, [(1, 1)]), (3, [(1, -1)])]), (some (.inr (0, [])), [(-3, [(1, 1)]), (-1, [(2, -1)]), (3, [(1, -1)])]), (some (.inr (1, [])), [(-4, [(1, 1)]), (0, [(2, 1)]), (4, [(1, -1)]), (63, [(2, -1)])]), (some (.inr (0, [])), [(-64, [(2, 1)]), (-4, [(1, 1)]), (4, [(1, -1)])]), (some (.inr (0, [])), [(-4, [(1, 1)]), (-1, [(2, -1)]), (4, [(1, -1)])]), (some (.inr (1, [])), [(-5, [(1, 1)])]), (some (.inr (1, [])), [(1, [(1, -1)])])]), [], 400)
def yD450 : List YD := yD_450 :: yD449
theorem yk_450 : ychk yKD (yct yCT0 yD449) xMT xFT yEX xm214 yD_450.2.1 yD_450.2.2.1 400 = true := by decide +kernel
-- IceBoatsModel.isWord
def yD_451 : YD := (216, ([(1, 30, 0), (0, -2147483648, 2147483647)], [(0, 36)], true, [(some (.inr (0, [])), [(-1, [(1, -1)])]), (some (.inr (0, [])), [(0, [(1, 1)]), (0, [(1, 1), (2, -1)])]), (some (.inr (1, [])), [(-1, [(1, -1), (2, 1)]), (0, [(1, 1)]), (39, [(1, -1)])])]), [], 400)
def yD451 : List YD := yD_451 :: yD450
theorem yk_451 : ychk yKD (yct yCT0 yD450) xMT xFT yEX xm216 yD_451.2.1 yD_451.2.2.1 400 = true := by decide +kernel
-- IceBoatsModel.wordTells
def yD_452 : YD := (217, ([(1, 30, 0), (0, 0, 39), (0, 0, 3)], [], true, [(some (.inl (0, 0, 5)), [(0, [(2, -1)])]), (some (.inl (0, 0, 5)), [(-1, [(2, 1)]), (1, [(2, -1)])]), (some (.inl (0, -2147483648, 2147483647)), [(-2, [(2, 1)]), (2, [(2, -1)])]), (some (.inl (0, 0, 63)), [(-3, [(2, 1)])])]), [], 400)
def yD452 : List YD := yD_452 :: yD451
theorem yk_452 : ychk yKD (yct yCT0 yD451) xMT xFT yEX xm217 yD_452.2.1 yD_452.2.2.1 400 = true := by decide +kernel
-- IceBoatsModel.word
def yD_453 : YD := (215, ([(1, 30, 0), (0, -2147483648, 2147483647), (0, -2147483648, 2147483647)], [], false, [(some (.inr (-1, [])), [(-1, [(2, -1)]), (0, [(1, 1)]), (39, [(1, -1)])]), (some (.inr (-1, [])), [(-4, [(2, 1)]), (0, [(1, 1)]), (39, [(1, -1)])]), (some (.inr (1, [])), [(-3, [(2, 1)]), (0, [(1, 1)]), (3, [(2, -1)]), (39, [(1, -1)])]), (some (.inr (1, [])), [(-2, [(2, 1)]), (0, [(1, 1)]), (2, [(2, -1)]), (39, [(1, -1)])]), (some (.inr (1, [])), [(-1, [(2, 1)]), (0, [(1, 1)]), (1, [(2, -1)]), (39, [(1, -1)])]), (some (.inr (1, [])), [(0, [(1, 1)]), (0, [(2, -1)]), (0, [(2, 1)]), (39, [(1, -1)])]), (some (.inr (-1, [])), [(0, [(1, 1)])]), (some (.inr (-1, [])), [(-1, [(1, -1)])])]), [], 400)
def yD453 : List YD := yD_453 :: yD452
theorem yk_453 : ychk yKD (yct yCT0 yD452) xMT xFT yEX xm215 yD_453.2.1 yD_453.2.2.1 400 = true := by decide +kernel
-- IceBoatsModel.tells
def yD_454 : YD := (218, ([(1, 30, 0), (0, -2147483648, 2147483647), (0, -2147483648, 2147483647)], [], false, [(some (.inl (0, -2147483648, 2147483647)), [])]), [(109, [(0, 1, (1, 30, 0)), (1, 1, (0, 0, 39)), (2, 1, (0, 3, 3)), (3, 1, (0, -2147483648, 2147483647)), (4, 1, (0, 0, 6))], [(0, 36, (0, 0, 40)), (0, 37, (1, 58, 0))], [(-1, [(1, -1), (5, 1)])], (13, [(4, -2)]))], 400)
def yD454 : List YD := yD_454 :: yD453
theorem yk_454 : ychk yKD (yct yCT0 yD453) xMT xFT yEX xm218 yD_454.2.1 yD_454.2.2.1 400 = true := by decide +kernel
-- IceBoatsModel.heard
def yD_455 : YD := (219, ([(1, 30, 0), (0, -2147483648, 2147483647), (0, -2147483648, 2147483647)], [(0, 36)], true, [(some (.inl (0, -2147483648, 2147483647)), [(-1, [(1, -1), (3, 1)]), (0, [(1, 1)]), (0, [(2, 1)]), (5, [(2, -1)]), (39, [(1, -1)])]), (some (.inr (-1, [])), [(-6, [(2, 1)]), (-1, [(1, -1), (3, 1)]), (0, [(1, 1)]), (39, [(1, -1)])]), (some (.inr (-1, [])), [(-1, [(1, -1), (3, 1)]), (-1, [(2, -1)]), (0, [(1, 1)]), (39, [(1, -1)])]), (some (.inr (-1, [])), [(0, [(1, 1)]), (0, [(1, 1), (3, -1)])]), (some (.inr (-1, [])), [(-1, [(1, -1)])])]), [], 400)
def yD455 : List YD := yD_455 :: yD454
theorem yk_455 : ychk yKD (yct yCT0 yD454) xMT xFT yEX xm219 yD_455.2.1 yD_455.2.2.1 400 = true := by decide +kernel
-- IceBoatsModel.knowsAt
def yD_456 : YD := (222, ([(1, 30, 0), (0, 0, 39), (0, 0, 5)], [], true, [(some (.inl (0, -2147483648, 2147483647)), []), (some (.inl (0, 0, 2147483647)), [(4, [(2, -1)])]), (some (.inr (-9, [])), [(4, [(2, -1)])]), (some (.inl (0, 0, 2147483647)), [(-1, [(2, 1)])]), (some (.inr (-9, [])), [(-1, [(2, 1)])])]), [], 400)
def yD456 : List YD := yD_456 :: yD455
theorem yk_456 : ychk yKD (yct yCT0 yD455) xMT xFT yEX xm222 yD_456.2.1 yD_456.2.2.1 400 = true := by decide +kernel
-- IceBoatsModel.learns
def yD_457 : YD := (223, ([(1, 30, 0), (0, 0, 5), (0, 1, 5), (0, -9, -1)], [], true, [(some (.inr (0, [(3, 1)])), [(-2, [(1, 1)]), (-1, [(1, 1), (2, -1)]), (4, [(2, -1)])]), (some (.inr (0, [(3, 1)])), [(-1, [(1, -1), (2, 1)]), (4, [(1, -1)])]), (some (.inr (0, [(3, 1)])), [(-1, [(1, 1)]), (0, [(1, -1), (2, 1)]), (0, [(1, 1), (2, -1)])])]), [], 400)
def yD457 : List YD := yD_457 :: yD456
theorem yk_457 : ychk yKD (yct yCT0 yD456) xMT xFT yEX xm223 yD_457.2.1 yD_457.2.2.1 400 = true := by decide +kernel
-- IceBoatsModel.learns
def yD_458 : YD := (223, ([(1, 30, 0), (0, 0, 5), (0, 0, 4), (0, -9, -1)], [], true, [(some (.inr (0, [(3, 1)])), [(-1, [(1, 1)]), (-1, [(1, 1), (2, -1)])]), (some (.inr (0, [(3, 1)])), [(-1, [(1, -1), (2, 1)]), (-1, [(2, 1)]), (3, [(1, -1)])]), (some (.inr (0, [(3, 1)])), [(0, [(1, -1), (2, 1)]), (0, [(1, 1), (2, -1)]), (4, [(1, -1)])])]), [], 400)
def yD458 : List YD := yD_458 :: yD457
theorem yk_458 : ychk yKD (yct yCT0 yD457) xMT xFT yEX xm223 yD_458.2.1 yD_458.2.2.1 400 = true := by decide +kernel
-- IceBoatsModel.learns
def yD_459 : YD := (223, ([(1, 30, 0), (0, 0, 5), (0, 1, 5), (0, 0, 2147483647)], [], true, [(some (.inl (0, -9, 2147483647)), [])]), [(18, [(0, 1, (1, 30, 0)), (1, 1, (0, 0, 5)), (2, 1, (0, 1, 5)), (3, 1, (0, 0, 2147483647)), (4, 1, (0, -9, 2147483647)), (5, 1, (0, 0, 40))], [], [], (81, [(5, -2)]))], 400)
def yD459 : List YD := yD_459 :: yD458
theorem yk_459 : ychk yKD (yct yCT0 yD458) xMT xFT yEX xm223 yD_459.2.1 yD_459.2.2.1 400 = true := by decide +kernel
-- IceBoatsModel.learns
def yD_460 : YD := (223, ([(1, 30, 0), (0, 0, 5), (0, 0, 5), (0, -9, 2147483647)], [], true, [(some (.inl (0, -9, 2147483647)), [])]), [(18, [(0, 1, (1, 30, 0)), (1, 1, (0, 0, 5)), (2, 1, (0, 0, 5)), (3, 1, (0, 0, 2147483647)), (4, 1, (0, -9, 2147483647)), (5, 1, (0, 0, 40))], [], [], (81, [(5, -2)]))], 400)
def yD460 : List YD := yD_460 :: yD459
theorem yk_460 : ychk yKD (yct yCT0 yD459) xMT xFT yEX xm223 yD_460.2.1 yD_460.2.2.1 400 = true := by decide +kernel
-- IceBoatsModel.learns
def yD_461 : YD := (223, ([(1, 30, 0), (0, 0, 5), (0, 0, 5), (0, -2147483648, 2147483647)], [], true, [(some (.inl (0, -2147483648, 2147483647)), [])]), [(18, [(0, 1, (1, 30, 0)), (1, 1, (0, 0, 5)), (2, 1, (0, 0, 5)), (3, 1, (0, 0, 2147483647)), (4, 1, (0, -9, 2147483647)), (5, 1, (0, 0, 40))], [], [], (81, [(5, -2)]))], 400)
def yD461 : List YD := yD_461 :: yD460
theorem yk_461 : ychk yKD (yct yCT0 yD460) xMT xFT yEX xm223 yD_461.2.1 yD_461.2.2.1 400 = true := by decide +kernel
-- IceBoatsModel.knowsOf
def yD_462 : YD := (221, ([(1, 30, 0), (0, 0, 39), (0, 0, 5), (0, 0, 5), (0, 0, 5)], [], true, [(some (.inr (-9, [])), [(-1, [(2, 1)]), (-1, [(3, 1)]), (-1, [(4, 1)]), (0, [(2, -1), (3, 1)]), (0, [(2, 1), (3, -1)]), (0, [(3, -1), (4, 1)]), (0, [(3, 1), (4, -1)])]), (some (.inr (-9, [])), [(-1, [(2, -1), (3, 1)]), (-1, [(3, 1)]), (-1, [(4, 1)]), (0, [(3, -1), (4, 1)]), (0, [(3, 1), (4, -1)]), (4, [(2, -1)])]), (some (.inr (-9, [])), [(-2, [(2, 1)]), (-1, [(2, 1), (3, -1)]), (-1, [(3, 1)]), (-1, [(4, 1)]), (0, [(3, -1), (4, 1)]), (0, [(3, 1), (4, -1)]), (4, [(3, -1)])]), (some (.inr (-9, [])), [(-1, [(3, -1), (4, 1)]), (-1, [(4, 1)]), (0, [(2, -1), (3, 1)]), (0, [(2, 1), (3, -1)]), (4, [(2, -1)]), (4, [(3, -1)])]), (some (.inr (-9, [])), [(-1, [(2, -1), (3, 1)]), (-1, [(3, -1), (4, 1)]), (-1, [(3, 1)]), (-1, [(4, 1)]), (3, [(2, -1)]), (4, [(3, -1)])]), (some (.inr (-9, [])), [(-1, [(2, 1)]), (-1, [(2, 1), (3, -1)]), (-1, [(3, -1), (4, 1)]), (-1, [(4, 1)]), (4, [(3, -1)])]), (some (.inr (-9, [])), [(-2, [(2, 1)]), (-2, [(3, 1)]), (-1, [(3, 1), (4, -1)]), (-1, [(4, 1)]), (0, [(2, -1), (3, 1)]), (0, [(2, 1), (3, -1)]), (4, [(4, -1)])]), (some (.inr (-9, [])), [(-2, [(3, 1)]), (-1, [(2, -1), (3, 1)]), (-1, [(3, 1), (4, -1)]), (-1, [(4, 1)]), (4, [(2, -1)]), (4, [(4, -1)])]), (some (.inr (-9, [])), [(-3, [(2, 1)]), (-2, [(3, 1)]), (-1, [(2, 1), (3, -1)]), (-1, [(3, 1), (4, -1)]), (-1, [(4, 1)]), (4, [(3, -1)]), (4, [(4, -1)])]), (some (.inl (0, -9, 2147483647)), [(-1, [(4, 1)])]), (some (.inr (-9, [])), [(0, [(2, -1), (3, 1)]), (0, [(2, 1), (3, -1)]), (0, [(3, -1), (4, 1)]), (0, [(3, 1), (4, -1)]), (4, [(2, -1)]), (4, [(3, -1)]), (4, [(4, -1)])]), (some (.inr (-9, [])), [(-1, [(2, -1), (3, 1)]), (-1, [(3, 1)]), (0, [(3, -1), (4, 1)]), (0, [(3, 1), (4, -1)]), (3, [(2, -1)]), (4, [(3, -1)]), (4, [(4, -1)])]), (some (.inr (-9, [])), [(-1, [(2, 1)]), (-1, [(2, 1), (3, -1)]), (0, [(3, -1), (4, 1)]), (0, [(3, 1), (4, -1)]), (4, [(3, -1)]), (4, [(4, -1)])]), (some (.inr (-9, [])), [(-1, [(3, -1), (4, 1)]), (-1, [(4, 1)]), (0, [(2, -1), (3, 1)]), (0, [(2, 1), (3, -1)]), (3, [(2, -1)]), (3, [(3, -1)]), (4, [(4, -1)])]), (some (.inr (-9, [])), [(-1, [(2, -1), (3, 1)]), (-1, [(3, -1), (4, 1)]), (-1, [(3, 1)]), (-1, [(4, 1)]), (2, [(2, -1)]), (3, [(3, -1)]), (4, [(4, -1)])]), (some (.inr (-9, [])), [(-1, [(2, 1)]), (-1, [(2, 1), (3, -1)]), (-1, [(3, -1), (4, 1)]), (-1, [(4, 1)]), (3, [(3, -1)]), (4, [(4, -1)])]), (some (.inr (-9, [])), [(-1, [(2, 1)]), (-1, [(3, 1)]), (-1, [(3, 1), (4, -1)]), (0, [(2, -1), (3, 1)]), (0, [(2, 1), (3, -1)]), (4, [(4, -1)])]), (some (.inr (-9, [])), [(-1, [(2, -1), (3, 1)]), (-1, [(3, 1)]), (-1, [(3, 1), (4, -1)]), (4, [(2, -1)]), (4, [(4, -1)])]), (some (.inr (-9, [])), [(-2, [(2, 1)]), (-1, [(2, 1), (3, -1)]), (-1, [(3, 1)]), (-1, [(3, 1), (4, -1)]), (4, [(3, -1)]), (4, [(4, -1)])]), (some (.inl (0, -9, 2147483647)), [(4, [(4, -1)])]), (some (.inl (0, -2147483648, 2147483647)), [])]), [], 400)
def yD462 : List YD := yD_462 :: yD461
theorem yk_462 : ychk yKD (yct yCT0 yD461) xMT xFT yEX xm221 yD_462.2.1 yD_462.2.2.1 400 = true := by decide +kernel
-- IceBoatsModel.knowsOf
def yD_463 : YD := (221, ([(1, 30, 0), (0, 0, 39), (0, 0, 5), (0, 0, 5), (0, -9, -9)], [], true, [(some (.inr (-9, [])), [(-1, [(2, 1)]), (-1, [(3, 1)]), (0, [(2, -1), (3, 1)]), (0, [(2, 1), (3, -1)])]), (some (.inr (-9, [])), [(-1, [(2, -1), (3, 1)]), (-1, [(3, 1)]), (4, [(2, -1)])]), (some (.inr (-9, [])), [(-2, [(2, 1)]), (-1, [(2, 1), (3, -1)]), (-1, [(3, 1)]), (4, [(3, -1)])]), (some (.inl (0, -9, 2147483647)), [(-1, [(3, 1)])]), (some (.inr (-9, [])), [(0, [(2, -1), (3, 1)]), (0, [(2, 1), (3, -1)]), (4, [(2, -1)]), (4, [(3, -1)])]), (some (.inr (-9, [])), [(-1, [(2, -1), (3, 1)]), (-1, [(3, 1)]), (3, [(2, -1)]), (4, [(3, -1)])]), (some (.inr (-9, [])), [(-1, [(2, 1)]), (-1, [(2, 1), (3, -1)]), (4, [(3, -1)])]), (some (.inl (0, -9, 2147483647)), [(4, [(3, -1)])]), (some (.inl (0, -2147483648, 2147483647)), [])]), [], 400)
def yD463 : List YD := yD_463 :: yD462
theorem yk_463 : ychk yKD (yct yCT0 yD462) xMT xFT yEX xm221 yD_463.2.1 yD_463.2.2.1 400 = true := by decide +kernel
-- IceBoatsModel.knowsOf
def yD_464 : YD := (221, ([(1, 30, 0), (0, 0, 39), (0, 0, 5), (0, -9, -9), (0, -9, -9)], [], true, [(some (.inr (-9, [])), [(-1, [(2, 1)])]), (some (.inl (0, 0, 2147483647)), [(-1, [(2, 1)])]), (some (.inr (-9, [])), [(4, [(2, -1)])]), (some (.inl (0, 0, 2147483647)), [(4, [(2, -1)])]), (some (.inl (0, -2147483648, 2147483647)), [])]), [], 400)
def yD464 : List YD := yD_464 :: yD463
theorem yk_464 : ychk yKD (yct yCT0 yD463) xMT xFT yEX xm221 yD_464.2.1 yD_464.2.2.1 400 = true := by decide +kernel
-- IceBoatsModel.knows
def yD_465 : YD := (220, ([(1, 30, 0), (0, -2147483648, 2147483647), (0, -2147483648, 2147483647), (0, -2147483648, 2147483647), (0, -2147483648, 2147483647)], [], true, [(some (.inl (0, -2147483648, 2147483647)), [])]), [], 400)
def yD465 : List YD := yD_465 :: yD464
theorem yk_465 : ychk yKD (yct yCT0 yD464) xMT xFT yEX xm220 yD_465.2.1 yD_465.2.2.1 400 = true := by decide +kernel
-- IceBoatsModel.allKnow
def yD_466 : YD := (224, ([(1, 30, 0), (0, -2147483648, 2147483647), (0, -2147483648, 2147483647), (0, -2147483648, 2147483647)], [], true, [(some (.inl (0, -9, 2147483647)), [])]), [(60, [(0, 1, (1, 30, 0)), (1, 1, (0, 0, 39)), (2, 1, (0, 1, 63)), (3, 1, (0, 1, 3)), (4, 1, (0, 0, 2147483647)), (5, 1, (0, 6, 216)), (6, 1, (0, 0, 216))], [(0, 36, (0, 0, 40))], [(-1, [(1, -1), (7, 1)])], (433, [(6, -2)]))], 400)
def yD466 : List YD := yD_466 :: yD465
theorem yk_466 : ychk yKD (yct yCT0 yD465) xMT xFT yEX xm224 yD_466.2.1 yD_466.2.2.1 400 = true := by decide +kernel
-- IceBoatsModel.letter
def yD_467 : YD := (227, ([(0, -2147483648, 2147483647)], [], true, [(some (.inr (0, [])), [(-72, [(0, 1)]), (72, [(0, -1)])]), (some (.inr (1, [])), [(-76, [(0, 1)]), (76, [(0, -1)])]), (some (.inr (2, [])), [(-87, [(0, 1)]), (87, [(0, -1)])]), (some (.inr (-9, [])), [(-88, [(0, 1)])]), (some (.inr (-9, [])), [(-77, [(0, 1)]), (86, [(0, -1)])]), (some (.inr (-9, [])), [(-73, [(0, 1)]), (75, [(0, -1)])]), (some (.inr (3, [])), [(-69, [(0, 1)]), (69, [(0, -1)])]), (some (.inr (-9, [])), [(-70, [(0, 1)]), (71, [(0, -1)])]), (some (.inr (-9, [])), [(68, [(0, -1)])])]), [], 400)
def yD467 : List YD := yD_467 :: yD466
theorem yk_467 : ychk yKD (yct yCT0 yD466) xMT xFT yEX xm227 yD_467.2.1 yD_467.2.2.1 400 = true := by decide +kernel
-- IceBoatsModel.reads
def yD_468 : YD := (226, ([(1, 30, 0), (0, 0, 3)], [], false, [(some (.inl (0, -9, 40)), [])]), [(2, [(0, 1, (1, 30, 0)), (1, 1, (0, 0, 3)), (2, 1, (0, 0, 4))], [], [], (419, [(2, -2)])), (23, [(0, 1, (1, 30, 0)), (1, 1, (0, 0, 3)), (2, 1, (0, 0, 40))], [], [], (409, [(2, -10)])), (76, [(0, 1, (1, 30, 0)), (1, 1, (0, 0, 3)), (2, 1, (0, 0, 39)), (3, 1, (0, 0, 3)), (4, 1, (0, 0, 3)), (5, 1, (0, -2147483648, 2147483647))], [(0, 10, (1, 35, 0)), (0, 11, (1, 36, 0))], [], (407, [(2, -10), (4, -2)]))], 400)
def yD468 : List YD := yD_468 :: yD467
theorem yk_468 : ychk yKD (yct yCT0 yD467) xMT xFT yEX xm226 yD_468.2.1 yD_468.2.2.1 400 = true := by decide +kernel
-- IceBoatsModel.fault
def yD_469 : YD := (225, ([(1, 30, 0), (0, -2147483648, 2147483647)], [], false, [(some (.inr (-1, [])), [(-1, [(1, -1)])]), (some (.inr (-1, [])), [(-4, [(1, 1)])]), (some (.inl (0, -9, 40)), [(0, [(1, 1)]), (3, [(1, -1)])]), (some (.inr (-3, [])), [(0, [(1, 1)]), (3, [(1, -1)])])]), [], 400)
def yD469 : List YD := yD_469 :: yD468
theorem yk_469 : ychk yKD (yct yCT0 yD468) xMT xFT yEX xm225 yD_469.2.1 yD_469.2.2.1 400 = true := by decide +kernel
-- IceBoatsModel.rules
def yD_470 : YD := (228, ([(1, 30, 0), (0, -2147483648, 2147483647), (0, -2147483648, 2147483647)], [], false, [(some (.inl (0, -2147483648, 2147483647)), [])]), [(49, [(0, 1, (1, 30, 0)), (1, 1, (0, 0, 5)), (2, 1, (0, 0, 3)), (3, 1, (0, -2147483648, 2147483647)), (4, 1, (0, 0, 4))], [], [], (9, [(4, -2)]))], 400)
def yD470 : List YD := yD_470 :: yD469
theorem yk_470 : ychk yKD (yct yCT0 yD469) xMT xFT yEX xm228 yD_470.2.1 yD_470.2.2.1 400 = true := by decide +kernel
-- IceBoatsModel.rule
def yD_471 : YD := (229, ([(1, 30, 0), (0, -2147483648, 2147483647), (0, -2147483648, 2147483647)], [], true, [(some (.inr (-1, [])), [(-1, [(2, -1)]), (0, [(1, 1)]), (5, [(1, -1)])]), (some (.inr (-1, [])), [(-4, [(2, 1)]), (0, [(1, 1)]), (5, [(1, -1)])]), (some (.inl (0, -2147483648, 2147483647)), [(0, [(1, 1)]), (0, [(2, 1)]), (3, [(2, -1)]), (5, [(1, -1)])]), (some (.inr (-1, [])), [(-6, [(1, 1)])]), (some (.inr (-1, [])), [(-1, [(1, -1)])])]), [], 400)
def yD471 : List YD := yD_471 :: yD470
theorem yk_471 : ychk yKD (yct yCT0 yD470) xMT xFT yEX xm229 yD_471.2.1 yD_471.2.2.1 400 = true := by decide +kernel
-- IceBoatsModel.asks
def yD_472 : YD := (230, ([(1, 30, 0), (0, -2147483648, 2147483647)], [], true, [(some (.inl (0, -4, 14)), [])]), [], 400)
def yD472 : List YD := yD_472 :: yD471
theorem yk_472 : ychk yKD (yct yCT0 yD471) xMT xFT yEX xm230 yD_472.2.1 yD_472.2.2.1 400 = true := by decide +kernel
-- IceBoatsModel.isMap
def yD_473 : YD := (232, ([(1, 30, 0), (0, 0, 5)], [], true, [(some (.inl (0, 0, 1)), [])]), [(4, [(0, 1, (1, 30, 0)), (1, 1, (0, 0, 5)), (2, 1, (0, 0, 1)), (3, 1, (0, 0, 16))], [], [], (33, [(3, -2)]))], 400)
def yD473 : List YD := yD_473 :: yD472
theorem yk_473 : ychk yKD (yct yCT0 yD472) xMT xFT yEX xm232 yD_473.2.1 yD_473.2.2.1 400 = true := by decide +kernel
-- IceBoatsModel.agrees
def yD_474 : YD := (233, ([(1, 30, 0), (0, 0, 5), (0, 0, 5), (0, -3, -1), (0, -3, -1)], [], true, [(some (.inl (0, -2147483648, 2147483647)), [])]), [(6, [(0, 1, (1, 30, 0)), (1, 1, (0, 0, 5)), (2, 1, (0, 0, 5)), (3, 1, (0, -3, -1)), (4, 1, (0, -3, -1)), (5, 1, (0, -2147483648, 2147483647)), (6, 1, (0, 0, 16))], [], [], (33, [(6, -2)]))], 400)
def yD474 : List YD := yD_474 :: yD473
theorem yk_474 : ychk yKD (yct yCT0 yD473) xMT xFT yEX xm233 yD_474.2.1 yD_474.2.2.1 400 = true := by decide +kernel
-- IceBoatsModel.agrees
def yD_475 : YD := (233, ([(1, 30, 0), (0, 0, 5), (0, 0, 5), (0, -3, 0), (0, -3, -1)], [], true, [(some (.inl (0, -2147483648, 2147483647)), [])]), [(6, [(0, 1, (1, 30, 0)), (1, 1, (0, 0, 5)), (2, 1, (0, 0, 5)), (3, 1, (0, -3, 0)), (4, 1, (0, -3, -1)), (5, 1, (0, -2147483648, 2147483647)), (6, 1, (0, 0, 16))], [], [], (33, [(6, -2)]))], 400)
def yD475 : List YD := yD_475 :: yD474
theorem yk_475 : ychk yKD (yct yCT0 yD474) xMT xFT yEX xm233 yD_475.2.1 yD_475.2.2.1 400 = true := by decide +kernel
-- IceBoatsModel.agrees
def yD_476 : YD := (233, ([(1, 30, 0), (0, 0, 5), (0, 0, 5), (0, -3, 1), (0, -3, -1)], [], true, [(some (.inl (0, -2147483648, 2147483647)), [])]), [(6, [(0, 1, (1, 30, 0)), (1, 1, (0, 0, 5)), (2, 1, (0, 0, 5)), (3, 1, (0, -3, 1)), (4, 1, (0, -3, -1)), (5, 1, (0, -2147483648, 2147483647)), (6, 1, (0, 0, 16))], [], [], (33, [(6, -2)]))], 400)
def yD476 : List YD := yD_476 :: yD475
theorem yk_476 : ychk yKD (yct yCT0 yD475) xMT xFT yEX xm233 yD_476.2.1 yD_476.2.2.1 400 = true := by decide +kernel
-- IceBoatsModel.agrees
def yD_477 : YD := (233, ([(1, 30, 0), (0, 0, 5), (0, 0, 5), (0, -3, 3), (0, -3, -1)], [], true, [(some (.inl (0, -2147483648, 2147483647)), [])]), [(6, [(0, 1, (1, 30, 0)), (1, 1, (0, 0, 5)), (2, 1, (0, 0, 5)), (3, 1, (0, -3, 3)), (4, 1, (0, -3, -1)), (5, 1, (0, -2147483648, 2147483647)), (6, 1, (0, 0, 16))], [], [], (33, [(6, -2)]))], 400)
def yD477 : List YD := yD_477 :: yD476
theorem yk_477 : ychk yKD (yct yCT0 yD476) xMT xFT yEX xm233 yD_477.2.1 yD_477.2.2.1 400 = true := by decide +kernel
-- IceBoatsModel.agrees
def yD_478 : YD := (233, ([(1, 30, 0), (0, 0, 5), (0, 0, 5), (0, -3, 3), (0, -3, 0)], [], true, [(some (.inl (0, -2147483648, 2147483647)), [])]), [(6, [(0, 1, (1, 30, 0)), (1, 1, (0, 0, 5)), (2, 1, (0, 0, 5)), (3, 1, (0, -3, 3)), (4, 1, (0, -3, 0)), (5, 1, (0, -2147483648, 2147483647)), (6, 1, (0, 0, 16))], [], [], (33, [(6, -2)]))], 400)
def yD478 : List YD := yD_478 :: yD477
theorem yk_478 : ychk yKD (yct yCT0 yD477) xMT xFT yEX xm233 yD_478.2.1 yD_478.2.2.1 400 = true := by decide +kernel
-- IceBoatsModel.agrees
def yD_479 : YD := (233, ([(1, 30, 0), (0, 0, 5), (0, 0, 5), (0, -3, 3), (0, -3, 2)], [], true, [(some (.inl (0, -2147483648, 2147483647)), [])]), [(6, [(0, 1, (1, 30, 0)), (1, 1, (0, 0, 5)), (2, 1, (0, 0, 5)), (3, 1, (0, -3, 3)), (4, 1, (0, -3, 2)), (5, 1, (0, -2147483648, 2147483647)), (6, 1, (0, 0, 16))], [], [], (33, [(6, -2)]))], 400)
def yD479 : List YD := yD_479 :: yD478
theorem yk_479 : ychk yKD (yct yCT0 yD478) xMT xFT yEX xm233 yD_479.2.1 yD_479.2.2.1 400 = true := by decide +kernel
-- IceBoatsModel.agrees
def yD_480 : YD := (233, ([(1, 30, 0), (0, 0, 5), (0, 0, 5), (0, -3, 3), (0, -3, 3)], [], true, [(some (.inl (0, -2147483648, 2147483647)), [])]), [(6, [(0, 1, (1, 30, 0)), (1, 1, (0, 0, 5)), (2, 1, (0, 0, 5)), (3, 1, (0, -3, 3)), (4, 1, (0, -3, 3)), (5, 1, (0, -2147483648, 2147483647)), (6, 1, (0, 0, 16))], [], [], (33, [(6, -2)]))], 400)
def yD480 : List YD := yD_480 :: yD479
theorem yk_480 : ychk yKD (yct yCT0 yD479) xMT xFT yEX xm233 yD_480.2.1 yD_480.2.2.1 400 = true := by decide +kernel
-- IceBoatsModel.shifts
def yD_481 : YD := (231, ([(1, 30, 0), (0, -2147483648, 2147483647), (0, -2147483648, 2147483647), (0, -2147483648, 2147483647)], [], false, [(some (.inl (0, -2147483648, 2147483647)), [])]), [(109, [(0, 1, (1, 30, 0)), (1, 1, (0, 0, 5)), (2, 1, (0, 0, 5)), (3, 1, (0, 1, 16)), (4, 1, (0, -2147483648, 2147483647)), (5, 1, (0, 0, 100)), (6, 1, (0, 0, 49))], [(0, 7, (1, 32, 0))], [], (99, [(6, -2)]))], 400)
def yD481 : List YD := yD_481 :: yD480
theorem yk_481 : ychk yKD (yct yCT0 yD480) xMT xFT yEX xm231 yD_481.2.1 yD_481.2.2.1 400 = true := by decide +kernel
-- IceBoatsModel.mapped
def yD_482 : YD := (234, ([(1, 30, 0), (0, -2147483648, 2147483647)], [], false, [(some (.inl (0, -2147483648, 2147483647)), [])]), [(19, [(0, 1, (1, 30, 0)), (1, 1, (0, 0, 63)), (2, 1, (0, 0, 40))], [(0, 3, (2, 0, 0))], [], (81, [(2, -2)]))], 400)
def yD482 : List YD := yD_482 :: yD481
theorem yk_482 : ychk yKD (yct yCT0 yD481) xMT xFT yEX xm234 yD_482.2.1 yD_482.2.2.1 400 = true := by decide +kernel
-- IceBoatsModel.areWays
def yD_483 : YD := (236, ([(1, 30, 0), (0, 0, 5), (0, 1, 40)], [], true, [(some (.inl (0, 0, 1)), [])]), [(5, [(0, 1, (1, 30, 0)), (1, 1, (0, 0, 5)), (2, 1, (0, 1, 40)), (3, 1, (0, 0, 1)), (4, 1, (0, 0, 40))], [], [], (81, [(4, -2)]))], 400)
def yD483 : List YD := yD_483 :: yD482
theorem yk_483 : ychk yKD (yct yCT0 yD482) xMT xFT yEX xm236 yD_483.2.1 yD_483.2.2.1 400 = true := by decide +kernel
-- IceBoatsModel.askedWays
def yD_484 : YD := (239, ([(1, 30, 0), (0, -2147483648, 2147483647), (0, -2147483648, 2147483647), (0, -2147483648, 2147483647)], [], false, [(some (.inr (-3, [])), [(0, [(1, 1)]), (0, [(2, 1)]), (5, [(2, -1)]), (63, [(1, -1)])]), (some (.inr (-3, [])), [(0, [(1, 1)]), (0, [(2, 1)]), (5, [(2, -1)]), (39, [(3, -1)]), (63, [(1, -1)])]), (some (.inr (0, [])), [(0, [(1, 1)]), (0, [(2, 1)]), (0, [(3, 1)]), (5, [(2, -1)]), (63, [(1, -1)])]), (some (.inr (-3, [])), [(0, [(1, 1)]), (0, [(2, 1)]), (0, [(3, 1)]), (5, [(2, -1)]), (63, [(1, -1)])]), (some (.inr (-1, [])), [(-6, [(2, 1)]), (0, [(1, 1)]), (63, [(1, -1)])]), (some (.inr (-1, [])), [(-1, [(2, -1)]), (0, [(1, 1)]), (63, [(1, -1)])]), (some (.inr (-1, [])), [(0, [(1, 1)]), (63, [(1, -1)])]), (some (.inr (-1, [])), [(-64, [(1, 1)])]), (some (.inr (-1, [])), [(-1, [(1, -1)])])]), [], 400)
def yD484 : List YD := yD_484 :: yD483
theorem yk_484 : ychk yKD (yct yCT0 yD483) xMT xFT yEX xm239 yD_484.2.1 yD_484.2.2.1 400 = true := by decide +kernel
-- IceBoatsModel.leads
def yD_485 : YD := (186, ([(1, 30, 0), (0, 0, 0), (0, -2147483648, 2147483647)], [], true, [(some (.inr (0, [])), [(-1, [(2, 1)]), (1, [(2, -1)])]), (some (.inr (0, [])), [(-2, [(2, 1)]), (2, [(2, -1)])]), (some (.inr (0, [])), [(-3, [(2, 1)]), (3, [(2, -1)])]), (some (.inr (1, [])), [(-3, [(2, 1)]), (3, [(2, -1)])]), (some (.inr (0, [])), [(-4, [(2, 1)]), (4, [(2, -1)])]), (some (.inr (8, [])), [(-4, [(2, 1)]), (4, [(2, -1)])]), (some (.inr (0, [])), [(-5, [(2, 1)])]), (some (.inr (0, [])), [(0, [(2, -1)])])]), [], 400)
def yD485 : List YD := yD_485 :: yD484
theorem yk_485 : ychk yKD (yct yCT0 yD484) xMT xFT yEX xm186 yD_485.2.1 yD_485.2.2.1 400 = true := by decide +kernel
-- IceBoatsModel.leads
def yD_486 : YD := (186, ([(1, 30, 0), (0, 1, 8), (0, 0, 4)], [], true, [(some (.inr (0, [(1, 1)])), [(-1, [(2, 1)]), (1, [(2, -1)])]), (some (.inr (-8, [(1, 1)])), [(-8, [(1, 1)]), (-1, [(2, 1)]), (1, [(2, -1)]), (8, [(1, -1)])]), (some (.inr (0, [(1, 1)])), [(-1, [(1, 1)]), (-1, [(2, 1)]), (1, [(2, -1)]), (7, [(1, -1)])]), (some (.inr (0, [(1, 1)])), [(-2, [(2, 1)]), (2, [(2, -1)])]), (some (.inr (-1, [(1, 1)])), [(-2, [(2, 1)]), (2, [(2, -1)])]), (some (.inr (0, [(1, 1)])), [(-3, [(2, 1)]), (3, [(2, -1)])]), (some (.inr (1, [(1, 1)])), [(-3, [(2, 1)]), (3, [(2, -1)])]), (some (.inr (0, [(1, 1)])), [(-4, [(2, 1)])]), (some (.inr (8, [(1, 1)])), [(-4, [(2, 1)])]), (some (.inr (0, [(1, 1)])), [(0, [(2, -1)])])]), [], 400)
def yD486 : List YD := yD_486 :: yD485
theorem yk_486 : ychk yKD (yct yCT0 yD485) xMT xFT yEX xm186 yD_486.2.1 yD_486.2.2.1 400 = true := by decide +kernel
-- IceBoatsModel.leads
def yD_487 : YD := (186, ([(1, 30, 0), (0, 0, 1), (0, -2147483648, 2147483647)], [], true, [(some (.inr (0, [(1, 1)])), [(-1, [(2, 1)]), (0, [(1, 1)]), (1, [(2, -1)]), (7, [(1, -1)])]), (some (.inr (0, [(1, 1)])), [(-2, [(2, 1)]), (-1, [(1, 1)]), (1, [(1, -1)]), (2, [(2, -1)])]), (some (.inr (-1, [(1, 1)])), [(-2, [(2, 1)]), (-1, [(1, 1)]), (1, [(1, -1)]), (2, [(2, -1)])]), (some (.inr (0, [(1, 1)])), [(-2, [(2, 1)]), (0, [(1, -1)]), (0, [(1, 1)]), (2, [(2, -1)])]), (some (.inr (0, [(1, 1)])), [(-3, [(2, 1)]), (3, [(2, -1)])]), (some (.inr (1, [(1, 1)])), [(-3, [(2, 1)]), (3, [(2, -1)])]), (some (.inr (0, [(1, 1)])), [(-4, [(2, 1)]), (0, [(1, 1)]), (4, [(2, -1)]), (7, [(1, -1)])]), (some (.inr (8, [(1, 1)])), [(-4, [(2, 1)]), (0, [(1, 1)]), (4, [(2, -1)]), (7, [(1, -1)])]), (some (.inr (0, [(1, 1)])), [(-5, [(2, 1)])]), (some (.inr (0, [(1, 1)])), [(0, [(2, -1)])])]), [], 400)
def yD487 : List YD := yD_487 :: yD486
theorem yk_487 : ychk yKD (yct yCT0 yD486) xMT xFT yEX xm186 yD_487.2.1 yD_487.2.2.1 400 = true := by decide +kernel
-- IceBoatsModel.leads
def yD_488 : YD := (186, ([(1, 30, 0), (0, 1, 9), (0, 0, 4)], [], true, [(some (.inr (0, [(1, 1)])), [(-1, [(2, 1)]), (1, [(2, -1)])]), (some (.inr (-8, [(1, 1)])), [(-8, [(1, 1)]), (-1, [(2, 1)]), (1, [(2, -1)]), (9, [(1, -1)])]), (some (.inr (0, [(1, 1)])), [(-1, [(1, 1)]), (-1, [(2, 1)]), (1, [(2, -1)]), (7, [(1, -1)])]), (some (.inr (0, [(1, 1)])), [(-2, [(2, 1)]), (2, [(2, -1)])]), (some (.inr (-1, [(1, 1)])), [(-2, [(2, 1)]), (2, [(2, -1)])]), (some (.inr (0, [(1, 1)])), [(-3, [(2, 1)]), (3, [(2, -1)])]), (some (.inr (1, [(1, 1)])), [(-3, [(2, 1)]), (3, [(2, -1)])]), (some (.inr (0, [(1, 1)])), [(-4, [(2, 1)])]), (some (.inr (8, [(1, 1)])), [(-4, [(2, 1)])]), (some (.inr (0, [(1, 1)])), [(0, [(2, -1)])])]), [], 400)
def yD488 : List YD := yD_488 :: yD487
theorem yk_488 : ychk yKD (yct yCT0 yD487) xMT xFT yEX xm186 yD_488.2.1 yD_488.2.2.1 400 = true := by decide +kernel
-- IceBoatsModel.leads
def yD_489 : YD := (186, ([(1, 30, 0), (0, 0, 2), (0, -2147483648, 2147483647)], [], true, [(some (.inr (0, [(1, 1)])), [(-1, [(2, 1)]), (0, [(1, 1)]), (1, [(2, -1)]), (7, [(1, -1)])]), (some (.inr (0, [(1, 1)])), [(-2, [(2, 1)]), (-1, [(1, 1)]), (2, [(1, -1)]), (2, [(2, -1)])]), (some (.inr (-1, [(1, 1)])), [(-2, [(2, 1)]), (-1, [(1, 1)]), (2, [(1, -1)]), (2, [(2, -1)])]), (some (.inr (0, [(1, 1)])), [(-2, [(2, 1)]), (0, [(1, -1)]), (0, [(1, 1)]), (2, [(2, -1)])]), (some (.inr (0, [(1, 1)])), [(-3, [(2, 1)]), (3, [(2, -1)])]), (some (.inr (1, [(1, 1)])), [(-3, [(2, 1)]), (3, [(2, -1)])]), (some (.inr (0, [(1, 1)])), [(-4, [(2, 1)]), (0, [(1, 1)]), (4, [(2, -1)]), (7, [(1, -1)])]), (some (.inr (8, [(1, 1)])), [(-4, [(2, 1)]), (0, [(1, 1)]), (4, [(2, -1)]), (7, [(1, -1)])]), (some (.inr (0, [(1, 1)])), [(-5, [(2, 1)])]), (some (.inr (0, [(1, 1)])), [(0, [(2, -1)])])]), [], 400)
def yD489 : List YD := yD_489 :: yD488
theorem yk_489 : ychk yKD (yct yCT0 yD488) xMT xFT yEX xm186 yD_489.2.1 yD_489.2.2.1 400 = true := by decide +kernel
-- IceBoatsModel.leads
def yD_490 : YD := (186, ([(1, 30, 0), (0, 1, 10), (0, 0, 4)], [], true, [(some (.inr (0, [(1, 1)])), [(-1, [(2, 1)]), (1, [(2, -1)])]), (some (.inr (-8, [(1, 1)])), [(-8, [(1, 1)]), (-1, [(2, 1)]), (1, [(2, -1)]), (10, [(1, -1)])]), (some (.inr (0, [(1, 1)])), [(-1, [(1, 1)]), (-1, [(2, 1)]), (1, [(2, -1)]), (7, [(1, -1)])]), (some (.inr (0, [(1, 1)])), [(-2, [(2, 1)]), (2, [(2, -1)])]), (some (.inr (-1, [(1, 1)])), [(-2, [(2, 1)]), (2, [(2, -1)])]), (some (.inr (0, [(1, 1)])), [(-2, [(2, 1)]), (-1, [(1, 1)]), (2, [(2, -1)]), (9, [(1, -1)])]), (some (.inr (0, [(1, 1)])), [(-3, [(2, 1)]), (3, [(2, -1)])]), (some (.inr (1, [(1, 1)])), [(-3, [(2, 1)]), (3, [(2, -1)])]), (some (.inr (0, [(1, 1)])), [(-4, [(2, 1)])]), (some (.inr (8, [(1, 1)])), [(-4, [(2, 1)])]), (some (.inr (0, [(1, 1)])), [(0, [(2, -1)])])]), [], 400)
def yD490 : List YD := yD_490 :: yD489
theorem yk_490 : ychk yKD (yct yCT0 yD489) xMT xFT yEX xm186 yD_490.2.1 yD_490.2.2.1 400 = true := by decide +kernel
-- IceBoatsModel.leads
def yD_491 : YD := (186, ([(1, 30, 0), (0, 0, 3), (0, -2147483648, 2147483647)], [], true, [(some (.inr (0, [(1, 1)])), [(-1, [(2, 1)]), (0, [(1, 1)]), (1, [(2, -1)]), (7, [(1, -1)])]), (some (.inr (0, [(1, 1)])), [(-2, [(2, 1)]), (-1, [(1, 1)]), (2, [(2, -1)]), (3, [(1, -1)])]), (some (.inr (-1, [(1, 1)])), [(-2, [(2, 1)]), (-1, [(1, 1)]), (2, [(2, -1)]), (3, [(1, -1)])]), (some (.inr (0, [(1, 1)])), [(-2, [(2, 1)]), (0, [(1, -1)]), (0, [(1, 1)]), (2, [(2, -1)])]), (some (.inr (0, [(1, 1)])), [(-3, [(2, 1)]), (3, [(2, -1)])]), (some (.inr (1, [(1, 1)])), [(-3, [(2, 1)]), (3, [(2, -1)])]), (some (.inr (0, [(1, 1)])), [(-4, [(2, 1)]), (0, [(1, 1)]), (4, [(2, -1)]), (7, [(1, -1)])]), (some (.inr (8, [(1, 1)])), [(-4, [(2, 1)]), (0, [(1, 1)]), (4, [(2, -1)]), (7, [(1, -1)])]), (some (.inr (0, [(1, 1)])), [(-5, [(2, 1)])]), (some (.inr (0, [(1, 1)])), [(0, [(2, -1)])])]), [], 400)
def yD491 : List YD := yD_491 :: yD490
theorem yk_491 : ychk yKD (yct yCT0 yD490) xMT xFT yEX xm186 yD_491.2.1 yD_491.2.2.1 400 = true := by decide +kernel
-- IceBoatsModel.leads
def yD_492 : YD := (186, ([(1, 30, 0), (0, 1, 12), (0, 0, 4)], [], true, [(some (.inr (0, [(1, 1)])), [(-1, [(2, 1)]), (1, [(2, -1)])]), (some (.inr (-8, [(1, 1)])), [(-8, [(1, 1)]), (-1, [(2, 1)]), (1, [(2, -1)]), (12, [(1, -1)])]), (some (.inr (0, [(1, 1)])), [(-1, [(1, 1)]), (-1, [(2, 1)]), (1, [(2, -1)]), (7, [(1, -1)])]), (some (.inr (0, [(1, 1)])), [(-2, [(2, 1)]), (2, [(2, -1)])]), (some (.inr (-1, [(1, 1)])), [(-2, [(2, 1)]), (2, [(2, -1)])]), (some (.inr (0, [(1, 1)])), [(-2, [(2, 1)]), (-1, [(1, 1)]), (2, [(2, -1)]), (9, [(1, -1)])]), (some (.inr (0, [(1, 1)])), [(-3, [(2, 1)]), (3, [(2, -1)])]), (some (.inr (1, [(1, 1)])), [(-3, [(2, 1)]), (3, [(2, -1)])]), (some (.inr (0, [(1, 1)])), [(-4, [(2, 1)])]), (some (.inr (8, [(1, 1)])), [(-4, [(2, 1)])]), (some (.inr (0, [(1, 1)])), [(0, [(2, -1)])])]), [], 400)
def yD492 : List YD := yD_492 :: yD491
theorem yk_492 : ychk yKD (yct yCT0 yD491) xMT xFT yEX xm186 yD_492.2.1 yD_492.2.2.1 400 = true := by decide +kernel
-- IceBoatsModel.leads
def yD_493 : YD := (186, ([(1, 30, 0), (0, 0, 4), (0, -2147483648, 2147483647)], [], true, [(some (.inr (0, [(1, 1)])), [(-1, [(2, 1)]), (0, [(1, 1)]), (1, [(2, -1)]), (7, [(1, -1)])]), (some (.inr (0, [(1, 1)])), [(-2, [(2, 1)]), (-1, [(1, 1)]), (2, [(2, -1)]), (4, [(1, -1)])]), (some (.inr (-1, [(1, 1)])), [(-2, [(2, 1)]), (-1, [(1, 1)]), (2, [(2, -1)]), (4, [(1, -1)])]), (some (.inr (0, [(1, 1)])), [(-2, [(2, 1)]), (0, [(1, -1)]), (0, [(1, 1)]), (2, [(2, -1)])]), (some (.inr (0, [(1, 1)])), [(-3, [(2, 1)]), (3, [(2, -1)])]), (some (.inr (1, [(1, 1)])), [(-3, [(2, 1)]), (3, [(2, -1)])]), (some (.inr (0, [(1, 1)])), [(-4, [(2, 1)]), (0, [(1, 1)]), (4, [(2, -1)]), (7, [(1, -1)])]), (some (.inr (8, [(1, 1)])), [(-4, [(2, 1)]), (0, [(1, 1)]), (4, [(2, -1)]), (7, [(1, -1)])]), (some (.inr (0, [(1, 1)])), [(-5, [(2, 1)])]), (some (.inr (0, [(1, 1)])), [(0, [(2, -1)])])]), [], 400)
def yD493 : List YD := yD_493 :: yD492
theorem yk_493 : ychk yKD (yct yCT0 yD492) xMT xFT yEX xm186 yD_493.2.1 yD_493.2.2.1 400 = true := by decide +kernel
-- IceBoatsModel.leads
def yD_494 : YD := (186, ([(1, 30, 0), (0, 0, 5), (0, -2147483648, 2147483647)], [], true, [(some (.inr (0, [(1, 1)])), [(-1, [(2, 1)]), (0, [(1, 1)]), (1, [(2, -1)]), (7, [(1, -1)])]), (some (.inr (0, [(1, 1)])), [(-2, [(2, 1)]), (-1, [(1, 1)]), (2, [(2, -1)]), (5, [(1, -1)])]), (some (.inr (-1, [(1, 1)])), [(-2, [(2, 1)]), (-1, [(1, 1)]), (2, [(2, -1)]), (5, [(1, -1)])]), (some (.inr (0, [(1, 1)])), [(-2, [(2, 1)]), (0, [(1, -1)]), (0, [(1, 1)]), (2, [(2, -1)])]), (some (.inr (0, [(1, 1)])), [(-3, [(2, 1)]), (3, [(2, -1)])]), (some (.inr (1, [(1, 1)])), [(-3, [(2, 1)]), (3, [(2, -1)])]), (some (.inr (0, [(1, 1)])), [(-4, [(2, 1)]), (0, [(1, 1)]), (4, [(2, -1)]), (7, [(1, -1)])]), (some (.inr (8, [(1, 1)])), [(-4, [(2, 1)]), (0, [(1, 1)]), (4, [(2, -1)]), (7, [(1, -1)])]), (some (.inr (0, [(1, 1)])), [(-5, [(2, 1)])]), (some (.inr (0, [(1, 1)])), [(0, [(2, -1)])])]), [], 400)
def yD494 : List YD := yD_494 :: yD493
theorem yk_494 : ychk yKD (yct yCT0 yD493) xMT xFT yEX xm186 yD_494.2.1 yD_494.2.2.1 400 = true := by decide +kernel
-- IceBoatsModel.leads
def yD_495 : YD := (186, ([(1, 30, 0), (0, 1, 13), (0, 0, 4)], [], true, [(some (.inr (0, [(1, 1)])), [(-1, [(2, 1)]), (1, [(2, -1)])]), (some (.inr (-8, [(1, 1)])), [(-8, [(1, 1)]), (-1, [(2, 1)]), (1, [(2, -1)]), (13, [(1, -1)])]), (some (.inr (0, [(1, 1)])), [(-1, [(1, 1)]), (-1, [(2, 1)]), (1, [(2, -1)]), (7, [(1, -1)])]), (some (.inr (0, [(1, 1)])), [(-2, [(2, 1)]), (2, [(2, -1)])]), (some (.inr (-1, [(1, 1)])), [(-2, [(2, 1)]), (2, [(2, -1)])]), (some (.inr (0, [(1, 1)])), [(-2, [(2, 1)]), (-1, [(1, 1)]), (2, [(2, -1)]), (9, [(1, -1)])]), (some (.inr (0, [(1, 1)])), [(-3, [(2, 1)]), (3, [(2, -1)])]), (some (.inr (1, [(1, 1)])), [(-3, [(2, 1)]), (3, [(2, -1)])]), (some (.inr (0, [(1, 1)])), [(-4, [(2, 1)])]), (some (.inr (8, [(1, 1)])), [(-4, [(2, 1)])]), (some (.inr (0, [(1, 1)])), [(0, [(2, -1)])])]), [], 400)
def yD495 : List YD := yD_495 :: yD494
theorem yk_495 : ychk yKD (yct yCT0 yD494) xMT xFT yEX xm186 yD_495.2.1 yD_495.2.2.1 400 = true := by decide +kernel
-- IceBoatsModel.leads
def yD_496 : YD := (186, ([(1, 30, 0), (0, 0, 6), (0, -2147483648, 2147483647)], [], true, [(some (.inr (0, [(1, 1)])), [(-1, [(2, 1)]), (0, [(1, 1)]), (1, [(2, -1)]), (7, [(1, -1)])]), (some (.inr (0, [(1, 1)])), [(-2, [(2, 1)]), (-1, [(1, 1)]), (2, [(2, -1)]), (6, [(1, -1)])]), (some (.inr (-1, [(1, 1)])), [(-2, [(2, 1)]), (-1, [(1, 1)]), (2, [(2, -1)]), (6, [(1, -1)])]), (some (.inr (0, [(1, 1)])), [(-2, [(2, 1)]), (0, [(1, -1)]), (0, [(1, 1)]), (2, [(2, -1)])]), (some (.inr (0, [(1, 1)])), [(-3, [(2, 1)]), (3, [(2, -1)])]), (some (.inr (1, [(1, 1)])), [(-3, [(2, 1)]), (3, [(2, -1)])]), (some (.inr (0, [(1, 1)])), [(-4, [(2, 1)]), (0, [(1, 1)]), (4, [(2, -1)]), (7, [(1, -1)])]), (some (.inr (8, [(1, 1)])), [(-4, [(2, 1)]), (0, [(1, 1)]), (4, [(2, -1)]), (7, [(1, -1)])]), (some (.inr (0, [(1, 1)])), [(-5, [(2, 1)])]), (some (.inr (0, [(1, 1)])), [(0, [(2, -1)])])]), [], 400)
def yD496 : List YD := yD_496 :: yD495
theorem yk_496 : ychk yKD (yct yCT0 yD495) xMT xFT yEX xm186 yD_496.2.1 yD_496.2.2.1 400 = true := by decide +kernel
-- IceBoatsModel.leads
def yD_497 : YD := (186, ([(1, 30, 0), (0, 1, 14), (0, 0, 4)], [], true, [(some (.inr (0, [(1, 1)])), [(-1, [(2, 1)]), (1, [(2, -1)])]), (some (.inr (-8, [(1, 1)])), [(-8, [(1, 1)]), (-1, [(2, 1)]), (1, [(2, -1)]), (14, [(1, -1)])]), (some (.inr (0, [(1, 1)])), [(-1, [(1, 1)]), (-1, [(2, 1)]), (1, [(2, -1)]), (7, [(1, -1)])]), (some (.inr (0, [(1, 1)])), [(-2, [(2, 1)]), (2, [(2, -1)])]), (some (.inr (-1, [(1, 1)])), [(-2, [(2, 1)]), (2, [(2, -1)])]), (some (.inr (0, [(1, 1)])), [(-2, [(2, 1)]), (-1, [(1, 1)]), (2, [(2, -1)]), (9, [(1, -1)])]), (some (.inr (0, [(1, 1)])), [(-3, [(2, 1)]), (3, [(2, -1)])]), (some (.inr (1, [(1, 1)])), [(-3, [(2, 1)]), (3, [(2, -1)])]), (some (.inr (0, [(1, 1)])), [(-4, [(2, 1)])]), (some (.inr (8, [(1, 1)])), [(-4, [(2, 1)])]), (some (.inr (0, [(1, 1)])), [(0, [(2, -1)])])]), [], 400)
def yD497 : List YD := yD_497 :: yD496
theorem yk_497 : ychk yKD (yct yCT0 yD496) xMT xFT yEX xm186 yD_497.2.1 yD_497.2.2.1 400 = true := by decide +kernel
-- IceBoatsModel.leads
def yD_498 : YD := (186, ([(1, 30, 0), (0, 0, 7), (0, -2147483648, 2147483647)], [], true, [(some (.inr (0, [(1, 1)])), [(-1, [(2, 1)]), (0, [(1, 1)]), (1, [(2, -1)]), (7, [(1, -1)])]), (some (.inr (0, [(1, 1)])), [(-2, [(2, 1)]), (-1, [(1, 1)]), (2, [(2, -1)]), (7, [(1, -1)])]), (some (.inr (-1, [(1, 1)])), [(-2, [(2, 1)]), (-1, [(1, 1)]), (2, [(2, -1)]), (7, [(1, -1)])]), (some (.inr (0, [(1, 1)])), [(-2, [(2, 1)]), (0, [(1, -1)]), (0, [(1, 1)]), (2, [(2, -1)])]), (some (.inr (0, [(1, 1)])), [(-3, [(2, 1)]), (0, [(1, 1)]), (3, [(2, -1)]), (6, [(1, -1)])]), (some (.inr (1, [(1, 1)])), [(-3, [(2, 1)]), (0, [(1, 1)]), (3, [(2, -1)]), (6, [(1, -1)])]), (some (.inr (0, [(1, 1)])), [(-3, [(2, 1)]), (-1, [(1, 1)]), (3, [(2, -1)]), (7, [(1, -1)])]), (some (.inr (0, [(1, 1)])), [(-4, [(2, 1)]), (0, [(1, 1)]), (4, [(2, -1)]), (7, [(1, -1)])]), (some (.inr (8, [(1, 1)])), [(-4, [(2, 1)]), (0, [(1, 1)]), (4, [(2, -1)]), (7, [(1, -1)])]), (some (.inr (0, [(1, 1)])), [(-5, [(2, 1)])]), (some (.inr (0, [(1, 1)])), [(0, [(2, -1)])])]), [], 400)
def yD498 : List YD := yD_498 :: yD497
theorem yk_498 : ychk yKD (yct yCT0 yD497) xMT xFT yEX xm186 yD_498.2.1 yD_498.2.2.1 400 = true := by decide +kernel
-- IceBoatsModel.leads
def yD_499 : YD := (186, ([(1, 30, 0), (0, 1, 15), (0, 0, 4)], [], true, [(some (.inr (0, [(1, 1)])), [(-1, [(2, 1)]), (1, [(2, -1)])]), (some (.inr (-8, [(1, 1)])), [(-8, [(1, 1)]), (-1, [(2, 1)]), (1, [(2, -1)]), (15, [(1, -1)])]), (some (.inr (0, [(1, 1)])), [(-1, [(1, 1)]), (-1, [(2, 1)]), (1, [(2, -1)]), (7, [(1, -1)])]), (some (.inr (0, [(1, 1)])), [(-2, [(2, 1)]), (2, [(2, -1)])]), (some (.inr (-1, [(1, 1)])), [(-2, [(2, 1)]), (2, [(2, -1)])]), (some (.inr (0, [(1, 1)])), [(-2, [(2, 1)]), (-1, [(1, 1)]), (2, [(2, -1)]), (9, [(1, -1)])]), (some (.inr (0, [(1, 1)])), [(-3, [(2, 1)]), (3, [(2, -1)])]), (some (.inr (1, [(1, 1)])), [(-3, [(2, 1)]), (3, [(2, -1)])]), (some (.inr (0, [(1, 1)])), [(-4, [(2, 1)])]), (some (.inr (8, [(1, 1)])), [(-4, [(2, 1)])]), (some (.inr (0, [(1, 1)])), [(0, [(2, -1)])])]), [], 400)
def yD499 : List YD := yD_499 :: yD498
theorem yk_499 : ychk yKD (yct yCT0 yD498) xMT xFT yEX xm186 yD_499.2.1 yD_499.2.2.1 400 = true := by decide +kernel
-- IceBoatsModel.leads
def yD_500 : YD := (186, ([(1, 30, 0), (0, 0, 8), (0, -2147483648, 2147483647)], [], true, [(some (.inr (0, [(1, 1)])), [(-1, [(1, 1)]), (-1, [(2, 1)]), (1, [(2, -1)]), (8, [(1, -1)])]), (some (.inr (-8, [(1, 1)])), [(-8, [(1, 1)]), (-1, [(2, 1)]), (1, [(2, -1)]), (8, [(1, -1)])]), (some (.inr (0, [(1, 1)])), [(-1, [(2, 1)]), (0, [(1, 1)]), (1, [(2, -1)]), (7, [(1, -1)])]), (some (.inr (0, [(1, 1)])), [(-2, [(2, 1)]), (-1, [(1, 1)]), (2, [(2, -1)]), (8, [(1, -1)])]), (some (.inr (-1, [(1, 1)])), [(-2, [(2, 1)]), (-1, [(1, 1)]), (2, [(2, -1)]), (8, [(1, -1)])]), (some (.inr (0, [(1, 1)])), [(-2, [(2, 1)]), (2, [(2, -1)])]), (some (.inr (0, [(1, 1)])), [(-3, [(2, 1)]), (3, [(2, -1)])]), (some (.inr (1, [(1, 1)])), [(-3, [(2, 1)]), (3, [(2, -1)])]), (some (.inr (0, [(1, 1)])), [(-3, [(2, 1)]), (-1, [(1, 1)]), (3, [(2, -1)]), (8, [(1, -1)])]), (some (.inr (0, [(1, 1)])), [(-4, [(2, 1)]), (4, [(2, -1)])]), (some (.inr (8, [(1, 1)])), [(-4, [(2, 1)]), (4, [(2, -1)])]), (some (.inr (0, [(1, 1)])), [(-5, [(2, 1)])]), (some (.inr (0, [(1, 1)])), [(0, [(2, -1)])])]), [], 400)
def yD500 : List YD := yD_500 :: yD499
theorem yk_500 : ychk yKD (yct yCT0 yD499) xMT xFT yEX xm186 yD_500.2.1 yD_500.2.2.1 400 = true := by decide +kernel
-- IceBoatsModel.leads
def yD_501 : YD := (186, ([(1, 30, 0), (0, 1, 16), (0, 0, 4)], [], true, [(some (.inr (0, [(1, 1)])), [(-1, [(2, 1)]), (1, [(2, -1)])]), (some (.inr (-8, [(1, 1)])), [(-8, [(1, 1)]), (-1, [(2, 1)]), (1, [(2, -1)]), (16, [(1, -1)])]), (some (.inr (0, [(1, 1)])), [(-1, [(1, 1)]), (-1, [(2, 1)]), (1, [(2, -1)]), (7, [(1, -1)])]), (some (.inr (0, [(1, 1)])), [(-2, [(2, 1)]), (2, [(2, -1)])]), (some (.inr (-1, [(1, 1)])), [(-2, [(2, 1)]), (2, [(2, -1)])]), (some (.inr (0, [(1, 1)])), [(-3, [(2, 1)]), (3, [(2, -1)])]), (some (.inr (1, [(1, 1)])), [(-3, [(2, 1)]), (3, [(2, -1)])]), (some (.inr (0, [(1, 1)])), [(-4, [(2, 1)])]), (some (.inr (8, [(1, 1)])), [(-4, [(2, 1)])]), (some (.inr (0, [(1, 1)])), [(0, [(2, -1)])])]), [], 400)
def yD501 : List YD := yD_501 :: yD500
theorem yk_501 : ychk yKD (yct yCT0 yD500) xMT xFT yEX xm186 yD_501.2.1 yD_501.2.2.1 400 = true := by decide +kernel
-- IceBoatsModel.leads
def yD_502 : YD := (186, ([(1, 30, 0), (0, 0, 9), (0, -2147483648, 2147483647)], [], true, [(some (.inr (0, [(1, 1)])), [(-1, [(1, 1)]), (-1, [(2, 1)]), (1, [(2, -1)]), (9, [(1, -1)])]), (some (.inr (-8, [(1, 1)])), [(-8, [(1, 1)]), (-1, [(2, 1)]), (1, [(2, -1)]), (9, [(1, -1)])]), (some (.inr (0, [(1, 1)])), [(-1, [(2, 1)]), (0, [(1, 1)]), (1, [(2, -1)]), (7, [(1, -1)])]), (some (.inr (0, [(1, 1)])), [(-2, [(2, 1)]), (-1, [(1, 1)]), (2, [(2, -1)]), (9, [(1, -1)])]), (some (.inr (-1, [(1, 1)])), [(-2, [(2, 1)]), (-1, [(1, 1)]), (2, [(2, -1)]), (9, [(1, -1)])]), (some (.inr (0, [(1, 1)])), [(-2, [(2, 1)]), (2, [(2, -1)])]), (some (.inr (0, [(1, 1)])), [(-3, [(2, 1)]), (3, [(2, -1)])]), (some (.inr (1, [(1, 1)])), [(-3, [(2, 1)]), (3, [(2, -1)])]), (some (.inr (0, [(1, 1)])), [(-3, [(2, 1)]), (-1, [(1, 1)]), (3, [(2, -1)]), (9, [(1, -1)])]), (some (.inr (0, [(1, 1)])), [(-4, [(2, 1)]), (4, [(2, -1)])]), (some (.inr (8, [(1, 1)])), [(-4, [(2, 1)]), (4, [(2, -1)])]), (some (.inr (0, [(1, 1)])), [(-5, [(2, 1)])]), (some (.inr (0, [(1, 1)])), [(0, [(2, -1)])])]), [], 400)
def yD502 : List YD := yD_502 :: yD501
theorem yk_502 : ychk yKD (yct yCT0 yD501) xMT xFT yEX xm186 yD_502.2.1 yD_502.2.2.1 400 = true := by decide +kernel
-- IceBoatsModel.leads
def yD_503 : YD := (186, ([(1, 30, 0), (0, 1, 20), (0, 0, 4)], [], true, [(some (.inr (0, [(1, 1)])), [(-1, [(2, 1)]), (1, [(2, -1)])]), (some (.inr (-8, [(1, 1)])), [(-8, [(1, 1)]), (-1, [(2, 1)]), (1, [(2, -1)]), (20, [(1, -1)])]), (some (.inr (0, [(1, 1)])), [(-1, [(1, 1)]), (-1, [(2, 1)]), (1, [(2, -1)]), (7, [(1, -1)])]), (some (.inr (0, [(1, 1)])), [(-2, [(2, 1)]), (2, [(2, -1)])]), (some (.inr (-1, [(1, 1)])), [(-2, [(2, 1)]), (2, [(2, -1)])]), (some (.inr (0, [(1, 1)])), [(-3, [(2, 1)]), (3, [(2, -1)])]), (some (.inr (1, [(1, 1)])), [(-3, [(2, 1)]), (3, [(2, -1)])]), (some (.inr (0, [(1, 1)])), [(-4, [(2, 1)])]), (some (.inr (8, [(1, 1)])), [(-4, [(2, 1)])]), (some (.inr (0, [(1, 1)])), [(0, [(2, -1)])])]), [], 400)
def yD503 : List YD := yD_503 :: yD502
theorem yk_503 : ychk yKD (yct yCT0 yD502) xMT xFT yEX xm186 yD_503.2.1 yD_503.2.2.1 400 = true := by decide +kernel
-- IceBoatsModel.leads
def yD_504 : YD := (186, ([(1, 30, 0), (0, 0, 10), (0, -2147483648, 2147483647)], [], true, [(some (.inr (0, [(1, 1)])), [(-1, [(1, 1)]), (-1, [(2, 1)]), (1, [(2, -1)]), (10, [(1, -1)])]), (some (.inr (-8, [(1, 1)])), [(-8, [(1, 1)]), (-1, [(2, 1)]), (1, [(2, -1)]), (10, [(1, -1)])]), (some (.inr (0, [(1, 1)])), [(-1, [(2, 1)]), (0, [(1, 1)]), (1, [(2, -1)]), (7, [(1, -1)])]), (some (.inr (0, [(1, 1)])), [(-2, [(2, 1)]), (-1, [(1, 1)]), (2, [(2, -1)]), (10, [(1, -1)])]), (some (.inr (-1, [(1, 1)])), [(-2, [(2, 1)]), (-1, [(1, 1)]), (2, [(2, -1)]), (10, [(1, -1)])]), (some (.inr (0, [(1, 1)])), [(-2, [(2, 1)]), (0, [(1, 1)]), (2, [(2, -1)]), (9, [(1, -1)])]), (some (.inr (0, [(1, 1)])), [(-3, [(2, 1)]), (3, [(2, -1)])]), (some (.inr (1, [(1, 1)])), [(-3, [(2, 1)]), (3, [(2, -1)])]), (some (.inr (0, [(1, 1)])), [(-3, [(2, 1)]), (-1, [(1, 1)]), (3, [(2, -1)]), (10, [(1, -1)])]), (some (.inr (0, [(1, 1)])), [(-4, [(2, 1)]), (4, [(2, -1)])]), (some (.inr (8, [(1, 1)])), [(-4, [(2, 1)]), (4, [(2, -1)])]), (some (.inr (0, [(1, 1)])), [(-5, [(2, 1)])]), (some (.inr (0, [(1, 1)])), [(0, [(2, -1)])])]), [], 400)
def yD504 : List YD := yD_504 :: yD503
theorem yk_504 : ychk yKD (yct yCT0 yD503) xMT xFT yEX xm186 yD_504.2.1 yD_504.2.2.1 400 = true := by decide +kernel
-- IceBoatsModel.leads
def yD_505 : YD := (186, ([(1, 30, 0), (0, 0, 12), (0, -2147483648, 2147483647)], [], true, [(some (.inr (0, [(1, 1)])), [(-1, [(1, 1)]), (-1, [(2, 1)]), (1, [(2, -1)]), (12, [(1, -1)])]), (some (.inr (-8, [(1, 1)])), [(-8, [(1, 1)]), (-1, [(2, 1)]), (1, [(2, -1)]), (12, [(1, -1)])]), (some (.inr (0, [(1, 1)])), [(-1, [(2, 1)]), (0, [(1, 1)]), (1, [(2, -1)]), (7, [(1, -1)])]), (some (.inr (0, [(1, 1)])), [(-2, [(2, 1)]), (-1, [(1, 1)]), (2, [(2, -1)]), (12, [(1, -1)])]), (some (.inr (-1, [(1, 1)])), [(-2, [(2, 1)]), (-1, [(1, 1)]), (2, [(2, -1)]), (12, [(1, -1)])]), (some (.inr (0, [(1, 1)])), [(-2, [(2, 1)]), (0, [(1, 1)]), (2, [(2, -1)]), (9, [(1, -1)])]), (some (.inr (0, [(1, 1)])), [(-3, [(2, 1)]), (3, [(2, -1)])]), (some (.inr (1, [(1, 1)])), [(-3, [(2, 1)]), (3, [(2, -1)])]), (some (.inr (0, [(1, 1)])), [(-3, [(2, 1)]), (-1, [(1, 1)]), (3, [(2, -1)]), (12, [(1, -1)])]), (some (.inr (0, [(1, 1)])), [(-4, [(2, 1)]), (4, [(2, -1)])]), (some (.inr (8, [(1, 1)])), [(-4, [(2, 1)]), (4, [(2, -1)])]), (some (.inr (0, [(1, 1)])), [(-5, [(2, 1)])]), (some (.inr (0, [(1, 1)])), [(0, [(2, -1)])])]), [], 400)
def yD505 : List YD := yD_505 :: yD504
theorem yk_505 : ychk yKD (yct yCT0 yD504) xMT xFT yEX xm186 yD_505.2.1 yD_505.2.2.1 400 = true := by decide +kernel
-- IceBoatsModel.leads
def yD_506 : YD := (186, ([(1, 30, 0), (0, 0, 13), (0, -2147483648, 2147483647)], [], true, [(some (.inr (0, [(1, 1)])), [(-1, [(1, 1)]), (-1, [(2, 1)]), (1, [(2, -1)]), (13, [(1, -1)])]), (some (.inr (-8, [(1, 1)])), [(-8, [(1, 1)]), (-1, [(2, 1)]), (1, [(2, -1)]), (13, [(1, -1)])]), (some (.inr (0, [(1, 1)])), [(-1, [(2, 1)]), (0, [(1, 1)]), (1, [(2, -1)]), (7, [(1, -1)])]), (some (.inr (0, [(1, 1)])), [(-2, [(2, 1)]), (-1, [(1, 1)]), (2, [(2, -1)]), (13, [(1, -1)])]), (some (.inr (-1, [(1, 1)])), [(-2, [(2, 1)]), (-1, [(1, 1)]), (2, [(2, -1)]), (13, [(1, -1)])]), (some (.inr (0, [(1, 1)])), [(-2, [(2, 1)]), (0, [(1, 1)]), (2, [(2, -1)]), (9, [(1, -1)])]), (some (.inr (0, [(1, 1)])), [(-3, [(2, 1)]), (3, [(2, -1)])]), (some (.inr (1, [(1, 1)])), [(-3, [(2, 1)]), (3, [(2, -1)])]), (some (.inr (0, [(1, 1)])), [(-3, [(2, 1)]), (-1, [(1, 1)]), (3, [(2, -1)]), (13, [(1, -1)])]), (some (.inr (0, [(1, 1)])), [(-4, [(2, 1)]), (4, [(2, -1)])]), (some (.inr (8, [(1, 1)])), [(-4, [(2, 1)]), (4, [(2, -1)])]), (some (.inr (0, [(1, 1)])), [(-5, [(2, 1)])]), (some (.inr (0, [(1, 1)])), [(0, [(2, -1)])])]), [], 400)
def yD506 : List YD := yD_506 :: yD505
theorem yk_506 : ychk yKD (yct yCT0 yD505) xMT xFT yEX xm186 yD_506.2.1 yD_506.2.2.1 400 = true := by decide +kernel
-- IceBoatsModel.leads
def yD_507 : YD := (186, ([(1, 30, 0), (0, 1, 21), (0, 0, 4)], [], true, [(some (.inr (0, [(1, 1)])), [(-1, [(2, 1)]), (1, [(2, -1)])]), (some (.inr (-8, [(1, 1)])), [(-8, [(1, 1)]), (-1, [(2, 1)]), (1, [(2, -1)]), (21, [(1, -1)])]), (some (.inr (0, [(1, 1)])), [(-1, [(1, 1)]), (-1, [(2, 1)]), (1, [(2, -1)]), (7, [(1, -1)])]), (some (.inr (0, [(1, 1)])), [(-2, [(2, 1)]), (2, [(2, -1)])]), (some (.inr (-1, [(1, 1)])), [(-2, [(2, 1)]), (2, [(2, -1)])]), (some (.inr (0, [(1, 1)])), [(-3, [(2, 1)]), (3, [(2, -1)])]), (some (.inr (1, [(1, 1)])), [(-3, [(2, 1)]), (3, [(2, -1)])]), (some (.inr (0, [(1, 1)])), [(-4, [(2, 1)])]), (some (.inr (8, [(1, 1)])), [(-4, [(2, 1)])]), (some (.inr (0, [(1, 1)])), [(0, [(2, -1)])])]), [], 400)
def yD507 : List YD := yD_507 :: yD506
theorem yk_507 : ychk yKD (yct yCT0 yD506) xMT xFT yEX xm186 yD_507.2.1 yD_507.2.2.1 400 = true := by decide +kernel
-- IceBoatsModel.leads
def yD_508 : YD := (186, ([(1, 30, 0), (0, 0, 14), (0, -2147483648, 2147483647)], [], true, [(some (.inr (0, [(1, 1)])), [(-1, [(1, 1)]), (-1, [(2, 1)]), (1, [(2, -1)]), (14, [(1, -1)])]), (some (.inr (-8, [(1, 1)])), [(-8, [(1, 1)]), (-1, [(2, 1)]), (1, [(2, -1)]), (14, [(1, -1)])]), (some (.inr (0, [(1, 1)])), [(-1, [(2, 1)]), (0, [(1, 1)]), (1, [(2, -1)]), (7, [(1, -1)])]), (some (.inr (0, [(1, 1)])), [(-2, [(2, 1)]), (-1, [(1, 1)]), (2, [(2, -1)]), (14, [(1, -1)])]), (some (.inr (-1, [(1, 1)])), [(-2, [(2, 1)]), (-1, [(1, 1)]), (2, [(2, -1)]), (14, [(1, -1)])]), (some (.inr (0, [(1, 1)])), [(-2, [(2, 1)]), (0, [(1, 1)]), (2, [(2, -1)]), (9, [(1, -1)])]), (some (.inr (0, [(1, 1)])), [(-3, [(2, 1)]), (3, [(2, -1)])]), (some (.inr (1, [(1, 1)])), [(-3, [(2, 1)]), (3, [(2, -1)])]), (some (.inr (0, [(1, 1)])), [(-3, [(2, 1)]), (-1, [(1, 1)]), (3, [(2, -1)]), (14, [(1, -1)])]), (some (.inr (0, [(1, 1)])), [(-4, [(2, 1)]), (4, [(2, -1)])]), (some (.inr (8, [(1, 1)])), [(-4, [(2, 1)]), (4, [(2, -1)])]), (some (.inr (0, [(1, 1)])), [(-5, [(2, 1)])]), (some (.inr (0, [(1, 1)])), [(0, [(2, -1)])])]), [], 400)
def yD508 : List YD := yD_508 :: yD507
theorem yk_508 : ychk yKD (yct yCT0 yD507) xMT xFT yEX xm186 yD_508.2.1 yD_508.2.2.1 400 = true := by decide +kernel
-- IceBoatsModel.leads
def yD_509 : YD := (186, ([(1, 30, 0), (0, 1, 24), (0, 0, 4)], [], true, [(some (.inr (0, [(1, 1)])), [(-1, [(2, 1)]), (1, [(2, -1)])]), (some (.inr (-8, [(1, 1)])), [(-8, [(1, 1)]), (-1, [(2, 1)]), (1, [(2, -1)]), (24, [(1, -1)])]), (some (.inr (0, [(1, 1)])), [(-1, [(1, 1)]), (-1, [(2, 1)]), (1, [(2, -1)]), (7, [(1, -1)])]), (some (.inr (0, [(1, 1)])), [(-2, [(2, 1)]), (2, [(2, -1)])]), (some (.inr (-1, [(1, 1)])), [(-2, [(2, 1)]), (2, [(2, -1)])]), (some (.inr (0, [(1, 1)])), [(-3, [(2, 1)]), (3, [(2, -1)])]), (some (.inr (1, [(1, 1)])), [(-3, [(2, 1)]), (3, [(2, -1)])]), (some (.inr (0, [(1, 1)])), [(-4, [(2, 1)])]), (some (.inr (8, [(1, 1)])), [(-4, [(2, 1)])]), (some (.inr (0, [(1, 1)])), [(0, [(2, -1)])])]), [], 400)
def yD509 : List YD := yD_509 :: yD508
theorem yk_509 : ychk yKD (yct yCT0 yD508) xMT xFT yEX xm186 yD_509.2.1 yD_509.2.2.1 400 = true := by decide +kernel
-- IceBoatsModel.leads
def yD_510 : YD := (186, ([(1, 30, 0), (0, 0, 15), (0, -2147483648, 2147483647)], [], true, [(some (.inr (0, [(1, 1)])), [(-1, [(1, 1)]), (-1, [(2, 1)]), (1, [(2, -1)]), (15, [(1, -1)])]), (some (.inr (-8, [(1, 1)])), [(-8, [(1, 1)]), (-1, [(2, 1)]), (1, [(2, -1)]), (15, [(1, -1)])]), (some (.inr (0, [(1, 1)])), [(-1, [(2, 1)]), (0, [(1, 1)]), (1, [(2, -1)]), (7, [(1, -1)])]), (some (.inr (0, [(1, 1)])), [(-2, [(2, 1)]), (-1, [(1, 1)]), (2, [(2, -1)]), (15, [(1, -1)])]), (some (.inr (-1, [(1, 1)])), [(-2, [(2, 1)]), (-1, [(1, 1)]), (2, [(2, -1)]), (15, [(1, -1)])]), (some (.inr (0, [(1, 1)])), [(-2, [(2, 1)]), (0, [(1, 1)]), (2, [(2, -1)]), (9, [(1, -1)])]), (some (.inr (0, [(1, 1)])), [(-3, [(2, 1)]), (3, [(2, -1)])]), (some (.inr (1, [(1, 1)])), [(-3, [(2, 1)]), (3, [(2, -1)])]), (some (.inr (0, [(1, 1)])), [(-3, [(2, 1)]), (-1, [(1, 1)]), (3, [(2, -1)]), (15, [(1, -1)])]), (some (.inr (0, [(1, 1)])), [(-4, [(2, 1)]), (4, [(2, -1)])]), (some (.inr (8, [(1, 1)])), [(-4, [(2, 1)]), (4, [(2, -1)])]), (some (.inr (0, [(1, 1)])), [(-5, [(2, 1)])]), (some (.inr (0, [(1, 1)])), [(0, [(2, -1)])])]), [], 400)
def yD510 : List YD := yD_510 :: yD509
theorem yk_510 : ychk yKD (yct yCT0 yD509) xMT xFT yEX xm186 yD_510.2.1 yD_510.2.2.1 400 = true := by decide +kernel
-- IceBoatsModel.leads
def yD_511 : YD := (186, ([(1, 30, 0), (0, 0, 16), (0, -2147483648, 2147483647)], [], true, [(some (.inr (0, [(1, 1)])), [(-1, [(1, 1)]), (-1, [(2, 1)]), (1, [(2, -1)]), (16, [(1, -1)])]), (some (.inr (-8, [(1, 1)])), [(-8, [(1, 1)]), (-1, [(2, 1)]), (1, [(2, -1)]), (16, [(1, -1)])]), (some (.inr (0, [(1, 1)])), [(-1, [(2, 1)]), (0, [(1, 1)]), (1, [(2, -1)]), (7, [(1, -1)])]), (some (.inr (0, [(1, 1)])), [(-2, [(2, 1)]), (-1, [(1, 1)]), (2, [(2, -1)]), (16, [(1, -1)])]), (some (.inr (-1, [(1, 1)])), [(-2, [(2, 1)]), (-1, [(1, 1)]), (2, [(2, -1)]), (16, [(1, -1)])]), (some (.inr (0, [(1, 1)])), [(-2, [(2, 1)]), (2, [(2, -1)])]), (some (.inr (0, [(1, 1)])), [(-3, [(2, 1)]), (3, [(2, -1)])]), (some (.inr (1, [(1, 1)])), [(-3, [(2, 1)]), (3, [(2, -1)])]), (some (.inr (0, [(1, 1)])), [(-3, [(2, 1)]), (-1, [(1, 1)]), (3, [(2, -1)]), (16, [(1, -1)])]), (some (.inr (0, [(1, 1)])), [(-4, [(2, 1)]), (4, [(2, -1)])]), (some (.inr (8, [(1, 1)])), [(-4, [(2, 1)]), (4, [(2, -1)])]), (some (.inr (0, [(1, 1)])), [(-5, [(2, 1)])]), (some (.inr (0, [(1, 1)])), [(0, [(2, -1)])])]), [], 400)
def yD511 : List YD := yD_511 :: yD510
theorem yk_511 : ychk yKD (yct yCT0 yD510) xMT xFT yEX xm186 yD_511.2.1 yD_511.2.2.1 400 = true := by decide +kernel
-- IceBoatsModel.leads
def yD_512 : YD := (186, ([(1, 30, 0), (0, 0, 20), (0, -2147483648, 2147483647)], [], true, [(some (.inr (0, [(1, 1)])), [(-1, [(1, 1)]), (-1, [(2, 1)]), (1, [(2, -1)]), (20, [(1, -1)])]), (some (.inr (-8, [(1, 1)])), [(-8, [(1, 1)]), (-1, [(2, 1)]), (1, [(2, -1)]), (20, [(1, -1)])]), (some (.inr (0, [(1, 1)])), [(-1, [(2, 1)]), (0, [(1, 1)]), (1, [(2, -1)]), (7, [(1, -1)])]), (some (.inr (0, [(1, 1)])), [(-2, [(2, 1)]), (-1, [(1, 1)]), (2, [(2, -1)]), (20, [(1, -1)])]), (some (.inr (-1, [(1, 1)])), [(-2, [(2, 1)]), (-1, [(1, 1)]), (2, [(2, -1)]), (20, [(1, -1)])]), (some (.inr (0, [(1, 1)])), [(-2, [(2, 1)]), (2, [(2, -1)])]), (some (.inr (0, [(1, 1)])), [(-3, [(2, 1)]), (3, [(2, -1)])]), (some (.inr (1, [(1, 1)])), [(-3, [(2, 1)]), (3, [(2, -1)])]), (some (.inr (0, [(1, 1)])), [(-3, [(2, 1)]), (-1, [(1, 1)]), (3, [(2, -1)]), (20, [(1, -1)])]), (some (.inr (0, [(1, 1)])), [(-4, [(2, 1)]), (4, [(2, -1)])]), (some (.inr (8, [(1, 1)])), [(-4, [(2, 1)]), (4, [(2, -1)])]), (some (.inr (0, [(1, 1)])), [(-5, [(2, 1)])]), (some (.inr (0, [(1, 1)])), [(0, [(2, -1)])])]), [], 400)
def yD512 : List YD := yD_512 :: yD511
theorem yk_512 : ychk yKD (yct yCT0 yD511) xMT xFT yEX xm186 yD_512.2.1 yD_512.2.2.1 400 = true := by decide +kernel
-- IceBoatsModel.leads
def yD_513 : YD := (186, ([(1, 30, 0), (0, 1, 36), (0, 0, 4)], [], true, [(some (.inr (0, [(1, 1)])), [(-1, [(2, 1)]), (1, [(2, -1)])]), (some (.inr (-8, [(1, 1)])), [(-8, [(1, 1)]), (-1, [(2, 1)]), (1, [(2, -1)]), (36, [(1, -1)])]), (some (.inr (0, [(1, 1)])), [(-1, [(1, 1)]), (-1, [(2, 1)]), (1, [(2, -1)]), (7, [(1, -1)])]), (some (.inr (0, [(1, 1)])), [(-2, [(2, 1)]), (2, [(2, -1)])]), (some (.inr (-1, [(1, 1)])), [(-2, [(2, 1)]), (2, [(2, -1)])]), (some (.inr (0, [(1, 1)])), [(-3, [(2, 1)]), (3, [(2, -1)])]), (some (.inr (1, [(1, 1)])), [(-3, [(2, 1)]), (3, [(2, -1)])]), (some (.inr (0, [(1, 1)])), [(-4, [(2, 1)])]), (some (.inr (8, [(1, 1)])), [(-4, [(2, 1)])]), (some (.inr (0, [(1, 1)])), [(0, [(2, -1)])])]), [], 400)
def yD513 : List YD := yD_513 :: yD512
theorem yk_513 : ychk yKD (yct yCT0 yD512) xMT xFT yEX xm186 yD_513.2.1 yD_513.2.2.1 400 = true := by decide +kernel
-- IceBoatsModel.leads
def yD_514 : YD := (186, ([(1, 30, 0), (0, 0, 21), (0, -2147483648, 2147483647)], [], true, [(some (.inr (0, [(1, 1)])), [(-1, [(1, 1)]), (-1, [(2, 1)]), (1, [(2, -1)]), (21, [(1, -1)])]), (some (.inr (-8, [(1, 1)])), [(-8, [(1, 1)]), (-1, [(2, 1)]), (1, [(2, -1)]), (21, [(1, -1)])]), (some (.inr (0, [(1, 1)])), [(-1, [(2, 1)]), (0, [(1, 1)]), (1, [(2, -1)]), (7, [(1, -1)])]), (some (.inr (0, [(1, 1)])), [(-2, [(2, 1)]), (-1, [(1, 1)]), (2, [(2, -1)]), (21, [(1, -1)])]), (some (.inr (-1, [(1, 1)])), [(-2, [(2, 1)]), (-1, [(1, 1)]), (2, [(2, -1)]), (21, [(1, -1)])]), (some (.inr (0, [(1, 1)])), [(-2, [(2, 1)]), (2, [(2, -1)])]), (some (.inr (0, [(1, 1)])), [(-3, [(2, 1)]), (3, [(2, -1)])]), (some (.inr (1, [(1, 1)])), [(-3, [(2, 1)]), (3, [(2, -1)])]), (some (.inr (0, [(1, 1)])), [(-3, [(2, 1)]), (-1, [(1, 1)]), (3, [(2, -1)]), (21, [(1, -1)])]), (some (.inr (0, [(1, 1)])), [(-4, [(2, 1)]), (4, [(2, -1)])]), (some (.inr (8, [(1, 1)])), [(-4, [(2, 1)]), (4, [(2, -1)])]), (some (.inr (0, [(1, 1)])), [(-5, [(2, 1)])]), (some (.inr (0, [(1, 1)])), [(0, [(2, -1)])])]), [], 400)
def yD514 : List YD := yD_514 :: yD513
theorem yk_514 : ychk yKD (yct yCT0 yD513) xMT xFT yEX xm186 yD_514.2.1 yD_514.2.2.1 400 = true := by decide +kernel
-- IceBoatsModel.leads
def yD_515 : YD := (186, ([(1, 30, 0), (0, 0, 24), (0, -2147483648, 2147483647)], [], true, [(some (.inr (0, [(1, 1)])), [(-1, [(1, 1)]), (-1, [(2, 1)]), (1, [(2, -1)]), (24, [(1, -1)])]), (some (.inr (-8, [(1, 1)])), [(-8, [(1, 1)]), (-1, [(2, 1)]), (1, [(2, -1)]), (24, [(1, -1)])]), (some (.inr (0, [(1, 1)])), [(-1, [(2, 1)]), (0, [(1, 1)]), (1, [(2, -1)]), (7, [(1, -1)])]), (some (.inr (0, [(1, 1)])), [(-2, [(2, 1)]), (-1, [(1, 1)]), (2, [(2, -1)]), (24, [(1, -1)])]), (some (.inr (-1, [(1, 1)])), [(-2, [(2, 1)]), (-1, [(1, 1)]), (2, [(2, -1)]), (24, [(1, -1)])]), (some (.inr (0, [(1, 1)])), [(-2, [(2, 1)]), (2, [(2, -1)])]), (some (.inr (0, [(1, 1)])), [(-3, [(2, 1)]), (3, [(2, -1)])]), (some (.inr (1, [(1, 1)])), [(-3, [(2, 1)]), (3, [(2, -1)])]), (some (.inr (0, [(1, 1)])), [(-3, [(2, 1)]), (-1, [(1, 1)]), (3, [(2, -1)]), (24, [(1, -1)])]), (some (.inr (0, [(1, 1)])), [(-4, [(2, 1)]), (4, [(2, -1)])]), (some (.inr (8, [(1, 1)])), [(-4, [(2, 1)]), (4, [(2, -1)])]), (some (.inr (0, [(1, 1)])), [(-5, [(2, 1)])]), (some (.inr (0, [(1, 1)])), [(0, [(2, -1)])])]), [], 400)
def yD515 : List YD := yD_515 :: yD514
theorem yk_515 : ychk yKD (yct yCT0 yD514) xMT xFT yEX xm186 yD_515.2.1 yD_515.2.2.1 400 = true := by decide +kernel
-- IceBoatsModel.leads
def yD_516 : YD := (186, ([(1, 30, 0), (0, 0, 36), (0, -2147483648, 2147483647)], [], true, [(some (.inr (0, [(1, 1)])), [(-1, [(1, 1)]), (-1, [(2, 1)]), (1, [(2, -1)]), (36, [(1, -1)])]), (some (.inr (-8, [(1, 1)])), [(-8, [(1, 1)]), (-1, [(2, 1)]), (1, [(2, -1)]), (36, [(1, -1)])]), (some (.inr (0, [(1, 1)])), [(-1, [(2, 1)]), (0, [(1, 1)]), (1, [(2, -1)]), (7, [(1, -1)])]), (some (.inr (0, [(1, 1)])), [(-2, [(2, 1)]), (-1, [(1, 1)]), (2, [(2, -1)]), (36, [(1, -1)])]), (some (.inr (-1, [(1, 1)])), [(-2, [(2, 1)]), (-1, [(1, 1)]), (2, [(2, -1)]), (36, [(1, -1)])]), (some (.inr (0, [(1, 1)])), [(-2, [(2, 1)]), (2, [(2, -1)])]), (some (.inr (0, [(1, 1)])), [(-3, [(2, 1)]), (3, [(2, -1)])]), (some (.inr (1, [(1, 1)])), [(-3, [(2, 1)]), (3, [(2, -1)])]), (some (.inr (0, [(1, 1)])), [(-3, [(2, 1)]), (-1, [(1, 1)]), (3, [(2, -1)]), (36, [(1, -1)])]), (some (.inr (0, [(1, 1)])), [(-4, [(2, 1)]), (4, [(2, -1)])]), (some (.inr (8, [(1, 1)])), [(-4, [(2, 1)]), (4, [(2, -1)])]), (some (.inr (0, [(1, 1)])), [(-5, [(2, 1)])]), (some (.inr (0, [(1, 1)])), [(0, [(2, -1)])])]), [], 400)
def yD516 : List YD := yD_516 :: yD515
theorem yk_516 : ychk yKD (yct yCT0 yD515) xMT xFT yEX xm186 yD_516.2.1 yD_516.2.2.1 400 = true := by decide +kernel
-- IceBoatsModel.leads
def yD_517 : YD := (186, ([(1, 30, 0), (0, 1, 48), (0, 0, 4)], [], true, [(some (.inr (0, [(1, 1)])), [(-1, [(2, 1)]), (1, [(2, -1)])]), (some (.inr (-8, [(1, 1)])), [(-8, [(1, 1)]), (-1, [(2, 1)]), (1, [(2, -1)]), (48, [(1, -1)])]), (some (.inr (0, [(1, 1)])), [(-1, [(1, 1)]), (-1, [(2, 1)]), (1, [(2, -1)]), (7, [(1, -1)])]), (some (.inr (0, [(1, 1)])), [(-2, [(2, 1)]), (2, [(2, -1)])]), (some (.inr (-1, [(1, 1)])), [(-2, [(2, 1)]), (2, [(2, -1)])]), (some (.inr (0, [(1, 1)])), [(-3, [(2, 1)]), (3, [(2, -1)])]), (some (.inr (1, [(1, 1)])), [(-3, [(2, 1)]), (3, [(2, -1)])]), (some (.inr (0, [(1, 1)])), [(-4, [(2, 1)])]), (some (.inr (8, [(1, 1)])), [(-4, [(2, 1)])]), (some (.inr (0, [(1, 1)])), [(0, [(2, -1)])])]), [], 400)
def yD517 : List YD := yD_517 :: yD516
theorem yk_517 : ychk yKD (yct yCT0 yD516) xMT xFT yEX xm186 yD_517.2.1 yD_517.2.2.1 400 = true := by decide +kernel
-- IceBoatsModel.leads
def yD_518 : YD := (186, ([(1, 30, 0), (0, 0, 39), (0, -2147483648, 2147483647)], [], true, [(some (.inr (0, [(1, 1)])), [(-1, [(1, 1)]), (-1, [(2, 1)]), (1, [(2, -1)]), (39, [(1, -1)])]), (some (.inr (-8, [(1, 1)])), [(-8, [(1, 1)]), (-1, [(2, 1)]), (1, [(2, -1)]), (39, [(1, -1)])]), (some (.inr (0, [(1, 1)])), [(-1, [(2, 1)]), (0, [(1, 1)]), (1, [(2, -1)]), (7, [(1, -1)])]), (some (.inr (0, [(1, 1)])), [(-2, [(2, 1)]), (-1, [(1, 1)]), (2, [(2, -1)]), (39, [(1, -1)])]), (some (.inr (-1, [(1, 1)])), [(-2, [(2, 1)]), (-1, [(1, 1)]), (2, [(2, -1)]), (39, [(1, -1)])]), (some (.inr (0, [(1, 1)])), [(-2, [(2, 1)]), (2, [(2, -1)])]), (some (.inr (0, [(1, 1)])), [(-3, [(2, 1)]), (3, [(2, -1)])]), (some (.inr (1, [(1, 1)])), [(-3, [(2, 1)]), (0, [(1, 1)]), (3, [(2, -1)]), (38, [(1, -1)])]), (some (.inr (0, [(1, 1)])), [(-3, [(2, 1)]), (-1, [(1, 1)]), (3, [(2, -1)]), (39, [(1, -1)])]), (some (.inr (0, [(1, 1)])), [(-4, [(2, 1)]), (4, [(2, -1)])]), (some (.inr (8, [(1, 1)])), [(-4, [(2, 1)]), (4, [(2, -1)])]), (some (.inr (0, [(1, 1)])), [(-5, [(2, 1)])]), (some (.inr (0, [(1, 1)])), [(0, [(2, -1)])])]), [], 400)
def yD518 : List YD := yD_518 :: yD517
theorem yk_518 : ychk yKD (yct yCT0 yD517) xMT xFT yEX xm186 yD_518.2.1 yD_518.2.2.1 400 = true := by decide +kernel
-- IceBoatsModel.leads
def yD_519 : YD := (186, ([(1, 30, 0), (0, 0, 40), (0, -2147483648, 2147483647)], [], true, [(some (.inr (0, [(1, 1)])), [(-1, [(1, 1)]), (-1, [(2, 1)]), (1, [(2, -1)]), (40, [(1, -1)])]), (some (.inr (-8, [(1, 1)])), [(-8, [(1, 1)]), (-1, [(2, 1)]), (1, [(2, -1)]), (40, [(1, -1)])]), (some (.inr (0, [(1, 1)])), [(-1, [(2, 1)]), (0, [(1, 1)]), (1, [(2, -1)]), (7, [(1, -1)])]), (some (.inr (0, [(1, 1)])), [(-2, [(2, 1)]), (-1, [(1, 1)]), (2, [(2, -1)]), (40, [(1, -1)])]), (some (.inr (-1, [(1, 1)])), [(-2, [(2, 1)]), (-1, [(1, 1)]), (2, [(2, -1)]), (40, [(1, -1)])]), (some (.inr (0, [(1, 1)])), [(-2, [(2, 1)]), (2, [(2, -1)])]), (some (.inr (0, [(1, 1)])), [(-3, [(2, 1)]), (3, [(2, -1)])]), (some (.inr (1, [(1, 1)])), [(-3, [(2, 1)]), (3, [(2, -1)])]), (some (.inr (0, [(1, 1)])), [(-3, [(2, 1)]), (-1, [(1, 1)]), (3, [(2, -1)]), (40, [(1, -1)])]), (some (.inr (0, [(1, 1)])), [(-4, [(2, 1)]), (4, [(2, -1)])]), (some (.inr (8, [(1, 1)])), [(-4, [(2, 1)]), (4, [(2, -1)])]), (some (.inr (0, [(1, 1)])), [(-5, [(2, 1)])]), (some (.inr (0, [(1, 1)])), [(0, [(2, -1)])])]), [], 400)
def yD519 : List YD := yD_519 :: yD518
theorem yk_519 : ychk yKD (yct yCT0 yD518) xMT xFT yEX xm186 yD_519.2.1 yD_519.2.2.1 400 = true := by decide +kernel
-- IceBoatsModel.leads
def yD_520 : YD := (186, ([(1, 30, 0), (0, 0, 41), (0, -2147483648, 2147483647)], [], true, [(some (.inr (0, [(1, 1)])), [(-1, [(1, 1)]), (-1, [(2, 1)]), (1, [(2, -1)]), (41, [(1, -1)])]), (some (.inr (-8, [(1, 1)])), [(-8, [(1, 1)]), (-1, [(2, 1)]), (1, [(2, -1)]), (41, [(1, -1)])]), (some (.inr (0, [(1, 1)])), [(-1, [(2, 1)]), (0, [(1, 1)]), (1, [(2, -1)]), (7, [(1, -1)])]), (some (.inr (0, [(1, 1)])), [(-2, [(2, 1)]), (-1, [(1, 1)]), (2, [(2, -1)]), (41, [(1, -1)])]), (some (.inr (-1, [(1, 1)])), [(-2, [(2, 1)]), (-1, [(1, 1)]), (2, [(2, -1)]), (41, [(1, -1)])]), (some (.inr (0, [(1, 1)])), [(-2, [(2, 1)]), (0, [(1, 1)]), (2, [(2, -1)]), (40, [(1, -1)])]), (some (.inr (0, [(1, 1)])), [(-3, [(2, 1)]), (3, [(2, -1)])]), (some (.inr (1, [(1, 1)])), [(-3, [(2, 1)]), (3, [(2, -1)])]), (some (.inr (0, [(1, 1)])), [(-3, [(2, 1)]), (-1, [(1, 1)]), (3, [(2, -1)]), (41, [(1, -1)])]), (some (.inr (0, [(1, 1)])), [(-4, [(2, 1)]), (4, [(2, -1)])]), (some (.inr (8, [(1, 1)])), [(-4, [(2, 1)]), (4, [(2, -1)])]), (some (.inr (0, [(1, 1)])), [(-5, [(2, 1)])]), (some (.inr (0, [(1, 1)])), [(0, [(2, -1)])])]), [], 400)
def yD520 : List YD := yD_520 :: yD519
theorem yk_520 : ychk yKD (yct yCT0 yD519) xMT xFT yEX xm186 yD_520.2.1 yD_520.2.2.1 400 = true := by decide +kernel
-- IceBoatsModel.leads
def yD_521 : YD := (186, ([(1, 30, 0), (0, 1, 49), (0, 0, 4)], [], true, [(some (.inr (0, [(1, 1)])), [(-1, [(2, 1)]), (1, [(2, -1)])]), (some (.inr (-8, [(1, 1)])), [(-8, [(1, 1)]), (-1, [(2, 1)]), (1, [(2, -1)]), (49, [(1, -1)])]), (some (.inr (0, [(1, 1)])), [(-1, [(1, 1)]), (-1, [(2, 1)]), (1, [(2, -1)]), (7, [(1, -1)])]), (some (.inr (0, [(1, 1)])), [(-2, [(2, 1)]), (2, [(2, -1)])]), (some (.inr (-1, [(1, 1)])), [(-2, [(2, 1)]), (2, [(2, -1)])]), (some (.inr (0, [(1, 1)])), [(-3, [(2, 1)]), (3, [(2, -1)])]), (some (.inr (1, [(1, 1)])), [(-3, [(2, 1)]), (3, [(2, -1)])]), (some (.inr (0, [(1, 1)])), [(-4, [(2, 1)])]), (some (.inr (8, [(1, 1)])), [(-4, [(2, 1)])]), (some (.inr (0, [(1, 1)])), [(0, [(2, -1)])])]), [], 400)
def yD521 : List YD := yD_521 :: yD520
theorem yk_521 : ychk yKD (yct yCT0 yD520) xMT xFT yEX xm186 yD_521.2.1 yD_521.2.2.1 400 = true := by decide +kernel
-- IceBoatsModel.leads
def yD_522 : YD := (186, ([(1, 30, 0), (0, 0, 48), (0, -2147483648, 2147483647)], [], true, [(some (.inr (0, [(1, 1)])), [(-1, [(1, 1)]), (-1, [(2, 1)]), (1, [(2, -1)]), (48, [(1, -1)])]), (some (.inr (-8, [(1, 1)])), [(-8, [(1, 1)]), (-1, [(2, 1)]), (1, [(2, -1)]), (48, [(1, -1)])]), (some (.inr (0, [(1, 1)])), [(-1, [(2, 1)]), (0, [(1, 1)]), (1, [(2, -1)]), (7, [(1, -1)])]), (some (.inr (0, [(1, 1)])), [(-2, [(2, 1)]), (-1, [(1, 1)]), (2, [(2, -1)]), (48, [(1, -1)])]), (some (.inr (-1, [(1, 1)])), [(-2, [(2, 1)]), (-1, [(1, 1)]), (2, [(2, -1)]), (48, [(1, -1)])]), (some (.inr (0, [(1, 1)])), [(-2, [(2, 1)]), (2, [(2, -1)])]), (some (.inr (0, [(1, 1)])), [(-3, [(2, 1)]), (3, [(2, -1)])]), (some (.inr (1, [(1, 1)])), [(-3, [(2, 1)]), (3, [(2, -1)])]), (some (.inr (0, [(1, 1)])), [(-3, [(2, 1)]), (-1, [(1, 1)]), (3, [(2, -1)]), (48, [(1, -1)])]), (some (.inr (0, [(1, 1)])), [(-4, [(2, 1)]), (4, [(2, -1)])]), (some (.inr (8, [(1, 1)])), [(-4, [(2, 1)]), (4, [(2, -1)])]), (some (.inr (0, [(1, 1)])), [(-5, [(2, 1)])]), (some (.inr (0, [(1, 1)])), [(0, [(2, -1)])])]), [], 400)
def yD522 : List YD := yD_522 :: yD521
theorem yk_522 : ychk yKD (yct yCT0 yD521) xMT xFT yEX xm186 yD_522.2.1 yD_522.2.2.1 400 = true := by decide +kernel
-- IceBoatsModel.leads
def yD_523 : YD := (186, ([(1, 30, 0), (0, 1, 63), (0, 0, 4)], [], true, [(some (.inr (0, [(1, 1)])), [(-1, [(2, 1)]), (1, [(2, -1)])]), (some (.inr (-8, [(1, 1)])), [(-8, [(1, 1)]), (-1, [(2, 1)]), (1, [(2, -1)]), (63, [(1, -1)])]), (some (.inr (0, [(1, 1)])), [(-1, [(1, 1)]), (-1, [(2, 1)]), (1, [(2, -1)]), (7, [(1, -1)])]), (some (.inr (0, [(1, 1)])), [(-2, [(2, 1)]), (2, [(2, -1)])]), (some (.inr (-1, [(1, 1)])), [(-2, [(2, 1)]), (2, [(2, -1)])]), (some (.inr (0, [(1, 1)])), [(-3, [(2, 1)]), (3, [(2, -1)])]), (some (.inr (1, [(1, 1)])), [(-3, [(2, 1)]), (-1, [(1, 1)]), (3, [(2, -1)]), (62, [(1, -1)])]), (some (.inr (0, [(1, 1)])), [(-4, [(2, 1)])]), (some (.inr (8, [(1, 1)])), [(-4, [(2, 1)]), (-1, [(1, 1)]), (55, [(1, -1)])]), (some (.inr (0, [(1, 1)])), [(0, [(2, -1)])])]), [], 400)
def yD523 : List YD := yD_523 :: yD522
theorem yk_523 : ychk yKD (yct yCT0 yD522) xMT xFT yEX xm186 yD_523.2.1 yD_523.2.2.1 400 = true := by decide +kernel
-- IceBoatsModel.leads
def yD_524 : YD := (186, ([(1, 30, 0), (0, 0, 49), (0, -2147483648, 2147483647)], [], true, [(some (.inr (0, [(1, 1)])), [(-1, [(1, 1)]), (-1, [(2, 1)]), (1, [(2, -1)]), (49, [(1, -1)])]), (some (.inr (-8, [(1, 1)])), [(-8, [(1, 1)]), (-1, [(2, 1)]), (1, [(2, -1)]), (49, [(1, -1)])]), (some (.inr (0, [(1, 1)])), [(-1, [(2, 1)]), (0, [(1, 1)]), (1, [(2, -1)]), (7, [(1, -1)])]), (some (.inr (0, [(1, 1)])), [(-2, [(2, 1)]), (-1, [(1, 1)]), (2, [(2, -1)]), (49, [(1, -1)])]), (some (.inr (-1, [(1, 1)])), [(-2, [(2, 1)]), (-1, [(1, 1)]), (2, [(2, -1)]), (49, [(1, -1)])]), (some (.inr (0, [(1, 1)])), [(-2, [(2, 1)]), (2, [(2, -1)])]), (some (.inr (0, [(1, 1)])), [(-3, [(2, 1)]), (3, [(2, -1)])]), (some (.inr (1, [(1, 1)])), [(-3, [(2, 1)]), (3, [(2, -1)])]), (some (.inr (0, [(1, 1)])), [(-3, [(2, 1)]), (-1, [(1, 1)]), (3, [(2, -1)]), (49, [(1, -1)])]), (some (.inr (0, [(1, 1)])), [(-4, [(2, 1)]), (4, [(2, -1)])]), (some (.inr (8, [(1, 1)])), [(-4, [(2, 1)]), (4, [(2, -1)])]), (some (.inr (0, [(1, 1)])), [(-5, [(2, 1)])]), (some (.inr (0, [(1, 1)])), [(0, [(2, -1)])])]), [], 400)
def yD524 : List YD := yD_524 :: yD523
theorem yk_524 : ychk yKD (yct yCT0 yD523) xMT xFT yEX xm186 yD_524.2.1 yD_524.2.2.1 400 = true := by decide +kernel
-- IceBoatsModel.leads
def yD_525 : YD := (186, ([(1, 30, 0), (0, 0, 63), (0, -2147483648, 2147483647)], [], true, [(some (.inr (0, [(1, 1)])), [(-1, [(1, 1)]), (-1, [(2, 1)]), (1, [(2, -1)]), (63, [(1, -1)])]), (some (.inr (-8, [(1, 1)])), [(-8, [(1, 1)]), (-1, [(2, 1)]), (1, [(2, -1)]), (63, [(1, -1)])]), (some (.inr (0, [(1, 1)])), [(-1, [(2, 1)]), (0, [(1, 1)]), (1, [(2, -1)]), (7, [(1, -1)])]), (some (.inr (0, [(1, 1)])), [(-2, [(2, 1)]), (-1, [(1, 1)]), (2, [(2, -1)]), (63, [(1, -1)])]), (some (.inr (-1, [(1, 1)])), [(-2, [(2, 1)]), (-1, [(1, 1)]), (2, [(2, -1)]), (63, [(1, -1)])]), (some (.inr (0, [(1, 1)])), [(-2, [(2, 1)]), (2, [(2, -1)])]), (some (.inr (0, [(1, 1)])), [(-3, [(2, 1)]), (3, [(2, -1)])]), (some (.inr (1, [(1, 1)])), [(-3, [(2, 1)]), (0, [(1, 1)]), (3, [(2, -1)]), (62, [(1, -1)])]), (some (.inr (0, [(1, 1)])), [(-3, [(2, 1)]), (-1, [(1, 1)]), (3, [(2, -1)]), (63, [(1, -1)])]), (some (.inr (0, [(1, 1)])), [(-4, [(2, 1)]), (4, [(2, -1)])]), (some (.inr (8, [(1, 1)])), [(-4, [(2, 1)]), (0, [(1, 1)]), (4, [(2, -1)]), (55, [(1, -1)])]), (some (.inr (0, [(1, 1)])), [(-4, [(2, 1)]), (-1, [(1, 1)]), (4, [(2, -1)]), (63, [(1, -1)])]), (some (.inr (0, [(1, 1)])), [(-5, [(2, 1)])]), (some (.inr (0, [(1, 1)])), [(0, [(2, -1)])])]), [], 400)
def yD525 : List YD := yD_525 :: yD524
theorem yk_525 : ychk yKD (yct yCT0 yD524) xMT xFT yEX xm186 yD_525.2.1 yD_525.2.2.1 400 = true := by decide +kernel
-- IceBoatsModel.odds
def yD_526 : YD := (238, ([(1, 30, 0), (0, -2147483648, 2147483647), (0, -2147483648, 2147483647)], [], false, [(some (.inr (-3, [])), []), (some (.inr (-1, [])), []), (some (.inr (1, [])), [])]), [(101, [(0, 1, (1, 30, 0)), (1, 1, (0, 0, 63)), (2, 1, (0, 0, 5)), (3, 1, (0, 0, 0)), (4, 1, (2, 0, 0)), (6, 1, (0, 0, 39)), (7, 1, (0, 0, 64))], [(0, 7, (1, 32, 0))], [], (15939, [(5, -392), (6, -2)])), (18, [(0, 1, (1, 30, 0)), (1, 1, (0, 0, 63)), (2, 1, (0, 0, 5)), (3, 1, (0, 0, 0)), (4, 1, (0, 0, 64))], [], [], (16201, [(4, -2)])), (181, [(0, 1, (1, 30, 0)), (1, 1, (0, 0, 63)), (2, 1, (0, 0, 5)), (3, 1, (0, 0, 0)), (4, 1, (2, 0, 0)), (6, 1, (0, 0, 39)), (7, 1, (0, 0, 64))], [(0, 7, (1, 32, 0))], [], (15809, [(5, -392), (6, -2)])), (55, [(0, 1, (1, 30, 0)), (1, 1, (0, 0, 63)), (2, 1, (0, 0, 5)), (3, 1, (0, 0, 0)), (4, 1, (2, 0, 0)), (6, 1, (0, 0, 40))], [], [], (16071, [(5, -392)])), (77, [(0, 1, (1, 30, 0)), (1, 1, (0, 0, 63)), (2, 1, (0, 0, 5)), (3, 1, (0, 0, 0)), (4, 1, (2, 0, 0)), (6, 1, (0, 0, 39)), (7, 1, (0, 0, 64))], [(0, 7, (1, 32, 0))], [], (16069, [(5, -392), (6, -2)]))], 400)
def yD526 : List YD := yD_526 :: yD525
theorem yk_526 : ychk yKD (yct yCT0 yD525) xMT xFT yEX xm238 yD_526.2.1 yD_526.2.2.1 400 = true := by decide +kernel
-- IceBoatsModel.isCourse
def yD_527 : YD := (242, ([(1, 30, 0), (0, 0, 63), (0, 0, 5), (0, 0, 5), (0, 0, 0)], [], true, [(some (.inl (0, 0, 1)), [])]), [(17, [(0, 1, (1, 30, 0)), (1, 1, (0, 0, 63)), (2, 1, (0, 0, 5)), (3, 1, (0, 0, 5)), (4, 1, (0, 0, 0)), (5, 1, (0, -9, 40)), (6, 1, (0, 0, 63)), (7, 1, (0, 0, 1)), (8, 1, (0, 0, 40))], [(0, 7, (1, 32, 0))], [], (3443, [(8, -84)])), (78, [(0, 1, (1, 30, 0)), (1, 1, (0, 0, 63)), (2, 1, (0, 0, 5)), (3, 1, (0, 0, 5)), (4, 1, (0, 0, 0)), (5, 1, (0, 1, 40)), (6, 1, (0, 0, 63)), (7, 1, (0, 0, 1)), (8, 1, (0, 0, 39)), (9, 2, (0, 0, 20))], [(0, 7, (1, 32, 0))], [], (3441, [(8, -84), (9, -4)]))], 400)
def yD527 : List YD := yD_527 :: yD526
theorem yk_527 : ychk yKD (yct yCT0 yD526) xMT xFT yEX xm242 yD_527.2.1 yD_527.2.2.1 400 = true := by decide +kernel
-- IceBoatsModel.isCourse
def yD_528 : YD := (242, ([(1, 30, 0), (0, 0, 63), (0, 0, 5), (0, 0, 5), (0, 0, 1)], [], true, [(some (.inl (0, 0, 1)), [])]), [(17, [(0, 1, (1, 30, 0)), (1, 1, (0, 0, 63)), (2, 1, (0, 0, 5)), (3, 1, (0, 0, 5)), (4, 1, (0, 0, 1)), (5, 1, (0, -9, 40)), (6, 1, (0, 0, 63)), (7, 1, (0, 0, 1)), (8, 1, (0, 0, 40))], [(0, 7, (1, 32, 0))], [], (3443, [(8, -84)])), (78, [(0, 1, (1, 30, 0)), (1, 1, (0, 0, 63)), (2, 1, (0, 0, 5)), (3, 1, (0, 0, 5)), (4, 1, (0, 0, 1)), (5, 1, (0, 1, 40)), (6, 1, (0, 0, 63)), (7, 1, (0, 0, 1)), (8, 1, (0, 0, 39)), (9, 2, (0, 0, 20))], [(0, 7, (1, 32, 0))], [], (3441, [(8, -84), (9, -4)]))], 400)
def yD528 : List YD := yD_528 :: yD527
theorem yk_528 : ychk yKD (yct yCT0 yD527) xMT xFT yEX xm242 yD_528.2.1 yD_528.2.2.1 400 = true := by decide +kernel
-- IceBoatsModel.isCourse
def yD_529 : YD := (242, ([(1, 30, 0), (0, 0, 63), (0, 0, 5), (0, 0, 5), (0, 0, 2)], [], true, [(some (.inl (0, 0, 1)), [])]), [(17, [(0, 1, (1, 30, 0)), (1, 1, (0, 0, 63)), (2, 1, (0, 0, 5)), (3, 1, (0, 0, 5)), (4, 1, (0, 0, 2)), (5, 1, (0, -9, 40)), (6, 1, (0, 0, 63)), (7, 1, (0, 0, 1)), (8, 1, (0, 0, 40))], [(0, 7, (1, 32, 0))], [], (3443, [(8, -84)])), (78, [(0, 1, (1, 30, 0)), (1, 1, (0, 0, 63)), (2, 1, (0, 0, 5)), (3, 1, (0, 0, 5)), (4, 1, (0, 0, 2)), (5, 1, (0, 1, 40)), (6, 1, (0, 0, 63)), (7, 1, (0, 0, 1)), (8, 1, (0, 0, 39)), (9, 2, (0, 0, 20))], [(0, 7, (1, 32, 0))], [], (3441, [(8, -84), (9, -4)]))], 400)
def yD529 : List YD := yD_529 :: yD528
theorem yk_529 : ychk yKD (yct yCT0 yD528) xMT xFT yEX xm242 yD_529.2.1 yD_529.2.2.1 400 = true := by decide +kernel
-- IceBoatsModel.isCourse
def yD_530 : YD := (242, ([(1, 30, 0), (0, 0, 63), (0, 0, 5), (0, 0, 5), (0, 0, 3)], [], true, [(some (.inl (0, 0, 1)), [])]), [(17, [(0, 1, (1, 30, 0)), (1, 1, (0, 0, 63)), (2, 1, (0, 0, 5)), (3, 1, (0, 0, 5)), (4, 1, (0, 0, 3)), (5, 1, (0, -9, 40)), (6, 1, (0, 0, 63)), (7, 1, (0, 0, 1)), (8, 1, (0, 0, 40))], [(0, 7, (1, 32, 0))], [], (3443, [(8, -84)])), (78, [(0, 1, (1, 30, 0)), (1, 1, (0, 0, 63)), (2, 1, (0, 0, 5)), (3, 1, (0, 0, 5)), (4, 1, (0, 0, 3)), (5, 1, (0, 1, 40)), (6, 1, (0, 0, 63)), (7, 1, (0, 0, 1)), (8, 1, (0, 0, 39)), (9, 2, (0, 0, 20))], [(0, 7, (1, 32, 0))], [], (3441, [(8, -84), (9, -4)]))], 400)
def yD530 : List YD := yD_530 :: yD529
theorem yk_530 : ychk yKD (yct yCT0 yD529) xMT xFT yEX xm242 yD_530.2.1 yD_530.2.2.1 400 = true := by decide +kernel
-- IceBoatsModel.isCourse
def yD_531 : YD := (242, ([(1, 30, 0), (0, 0, 63), (0, 0, 5), (0, 0, 5), (0, 0, 4)], [], true, [(some (.inl (0, 0, 1)), [])]), [(17, [(0, 1, (1, 30, 0)), (1, 1, (0, 0, 63)), (2, 1, (0, 0, 5)), (3, 1, (0, 0, 5)), (4, 1, (0, 0, 4)), (5, 1, (0, -9, 40)), (6, 1, (0, 0, 63)), (7, 1, (0, 0, 1)), (8, 1, (0, 0, 40))], [(0, 7, (1, 32, 0))], [], (3443, [(8, -84)])), (78, [(0, 1, (1, 30, 0)), (1, 1, (0, 0, 63)), (2, 1, (0, 0, 5)), (3, 1, (0, 0, 5)), (4, 1, (0, 0, 4)), (5, 1, (0, 1, 40)), (6, 1, (0, 0, 63)), (7, 1, (0, 0, 1)), (8, 1, (0, 0, 39)), (9, 2, (0, 0, 20))], [(0, 7, (1, 32, 0))], [], (3441, [(8, -84), (9, -4)]))], 400)
def yD531 : List YD := yD_531 :: yD530
theorem yk_531 : ychk yKD (yct yCT0 yD530) xMT xFT yEX xm242 yD_531.2.1 yD_531.2.2.1 400 = true := by decide +kernel
-- IceBoatsModel.isCourse
def yD_532 : YD := (242, ([(1, 30, 0), (0, 0, 63), (0, 0, 5), (0, 0, 5), (0, 0, 5)], [], true, [(some (.inl (0, 0, 1)), [])]), [(17, [(0, 1, (1, 30, 0)), (1, 1, (0, 0, 63)), (2, 1, (0, 0, 5)), (3, 1, (0, 0, 5)), (4, 1, (0, 0, 5)), (5, 1, (0, -9, 40)), (6, 1, (0, 0, 63)), (7, 1, (0, 0, 1)), (8, 1, (0, 0, 40))], [(0, 7, (1, 32, 0))], [], (3443, [(8, -84)])), (78, [(0, 1, (1, 30, 0)), (1, 1, (0, 0, 63)), (2, 1, (0, 0, 5)), (3, 1, (0, 0, 5)), (4, 1, (0, 0, 5)), (5, 1, (0, 1, 40)), (6, 1, (0, 0, 63)), (7, 1, (0, 0, 1)), (8, 1, (0, 0, 39)), (9, 2, (0, 0, 20))], [(0, 7, (1, 32, 0))], [], (3441, [(8, -84), (9, -4)]))], 400)
def yD532 : List YD := yD_532 :: yD531
theorem yk_532 : ychk yKD (yct yCT0 yD531) xMT xFT yEX xm242 yD_532.2.1 yD_532.2.2.1 400 = true := by decide +kernel
-- IceBoatsModel.isCourse
def yD_533 : YD := (242, ([(1, 30, 0), (0, 0, 63), (0, 0, 5), (0, 0, 5), (0, 0, 6)], [], true, [(some (.inl (0, 0, 1)), [])]), [(17, [(0, 1, (1, 30, 0)), (1, 1, (0, 0, 63)), (2, 1, (0, 0, 5)), (3, 1, (0, 0, 5)), (4, 1, (0, 0, 6)), (5, 1, (0, -9, 40)), (6, 1, (0, 0, 63)), (7, 1, (0, 0, 1)), (8, 1, (0, 0, 40))], [(0, 7, (1, 32, 0))], [], (3443, [(8, -84)])), (78, [(0, 1, (1, 30, 0)), (1, 1, (0, 0, 63)), (2, 1, (0, 0, 5)), (3, 1, (0, 0, 5)), (4, 1, (0, 0, 6)), (5, 1, (0, 1, 40)), (6, 1, (0, 0, 63)), (7, 1, (0, 0, 1)), (8, 1, (0, 0, 39)), (9, 2, (0, 0, 20))], [(0, 7, (1, 32, 0))], [], (3441, [(8, -84), (9, -4)]))], 400)
def yD533 : List YD := yD_533 :: yD532
theorem yk_533 : ychk yKD (yct yCT0 yD532) xMT xFT yEX xm242 yD_533.2.1 yD_533.2.2.1 400 = true := by decide +kernel
-- IceBoatsModel.isCourse
def yD_534 : YD := (242, ([(1, 30, 0), (0, 0, 63), (0, 0, 5), (0, 0, 5), (0, 0, 7)], [], true, [(some (.inl (0, 0, 1)), [])]), [(17, [(0, 1, (1, 30, 0)), (1, 1, (0, 0, 63)), (2, 1, (0, 0, 5)), (3, 1, (0, 0, 5)), (4, 1, (0, 0, 7)), (5, 1, (0, -9, 40)), (6, 1, (0, 0, 63)), (7, 1, (0, 0, 1)), (8, 1, (0, 0, 40))], [(0, 7, (1, 32, 0))], [], (3443, [(8, -84)])), (78, [(0, 1, (1, 30, 0)), (1, 1, (0, 0, 63)), (2, 1, (0, 0, 5)), (3, 1, (0, 0, 5)), (4, 1, (0, 0, 7)), (5, 1, (0, 1, 40)), (6, 1, (0, 0, 63)), (7, 1, (0, 0, 1)), (8, 1, (0, 0, 39)), (9, 2, (0, 0, 20))], [(0, 7, (1, 32, 0))], [], (3441, [(8, -84), (9, -4)]))], 400)
def yD534 : List YD := yD_534 :: yD533
theorem yk_534 : ychk yKD (yct yCT0 yD533) xMT xFT yEX xm242 yD_534.2.1 yD_534.2.2.1 400 = true := by decide +kernel
-- IceBoatsModel.isCourse
def yD_535 : YD := (242, ([(1, 30, 0), (0, 0, 63), (0, 0, 5), (0, 0, 5), (0, 0, 8)], [], true, [(some (.inl (0, 0, 1)), [])]), [(17, [(0, 1, (1, 30, 0)), (1, 1, (0, 0, 63)), (2, 1, (0, 0, 5)), (3, 1, (0, 0, 5)), (4, 1, (0, 0, 8)), (5, 1, (0, -9, 40)), (6, 1, (0, 0, 63)), (7, 1, (0, 0, 1)), (8, 1, (0, 0, 40))], [(0, 7, (1, 32, 0))], [], (3443, [(8, -84)])), (78, [(0, 1, (1, 30, 0)), (1, 1, (0, 0, 63)), (2, 1, (0, 0, 5)), (3, 1, (0, 0, 5)), (4, 1, (0, 0, 8)), (5, 1, (0, 1, 40)), (6, 1, (0, 0, 63)), (7, 1, (0, 0, 1)), (8, 1, (0, 0, 39)), (9, 2, (0, 0, 20))], [(0, 7, (1, 32, 0))], [], (3441, [(8, -84), (9, -4)]))], 400)
def yD535 : List YD := yD_535 :: yD534
theorem yk_535 : ychk yKD (yct yCT0 yD534) xMT xFT yEX xm242 yD_535.2.1 yD_535.2.2.1 400 = true := by decide +kernel
-- IceBoatsModel.isCourse
def yD_536 : YD := (242, ([(1, 30, 0), (0, 0, 63), (0, 0, 5), (0, 0, 5), (0, 0, 9)], [], true, [(some (.inl (0, 0, 1)), [])]), [(17, [(0, 1, (1, 30, 0)), (1, 1, (0, 0, 63)), (2, 1, (0, 0, 5)), (3, 1, (0, 0, 5)), (4, 1, (0, 0, 9)), (5, 1, (0, -9, 40)), (6, 1, (0, 0, 63)), (7, 1, (0, 0, 1)), (8, 1, (0, 0, 40))], [(0, 7, (1, 32, 0))], [], (3443, [(8, -84)])), (78, [(0, 1, (1, 30, 0)), (1, 1, (0, 0, 63)), (2, 1, (0, 0, 5)), (3, 1, (0, 0, 5)), (4, 1, (0, 0, 9)), (5, 1, (0, 1, 40)), (6, 1, (0, 0, 63)), (7, 1, (0, 0, 1)), (8, 1, (0, 0, 39)), (9, 2, (0, 0, 20))], [(0, 7, (1, 32, 0))], [], (3441, [(8, -84), (9, -4)]))], 400)
def yD536 : List YD := yD_536 :: yD535
theorem yk_536 : ychk yKD (yct yCT0 yD535) xMT xFT yEX xm242 yD_536.2.1 yD_536.2.2.1 400 = true := by decide +kernel
-- IceBoatsModel.isCourse
def yD_537 : YD := (242, ([(1, 30, 0), (0, 0, 63), (0, 0, 5), (0, 0, 5), (0, 0, 10)], [], true, [(some (.inl (0, 0, 1)), [])]), [(17, [(0, 1, (1, 30, 0)), (1, 1, (0, 0, 63)), (2, 1, (0, 0, 5)), (3, 1, (0, 0, 5)), (4, 1, (0, 0, 10)), (5, 1, (0, -9, 40)), (6, 1, (0, 0, 63)), (7, 1, (0, 0, 1)), (8, 1, (0, 0, 40))], [(0, 7, (1, 32, 0))], [], (3443, [(8, -84)])), (78, [(0, 1, (1, 30, 0)), (1, 1, (0, 0, 63)), (2, 1, (0, 0, 5)), (3, 1, (0, 0, 5)), (4, 1, (0, 0, 10)), (5, 1, (0, 1, 40)), (6, 1, (0, 0, 63)), (7, 1, (0, 0, 1)), (8, 1, (0, 0, 39)), (9, 2, (0, 0, 20))], [(0, 7, (1, 32, 0))], [], (3441, [(8, -84), (9, -4)]))], 400)
def yD537 : List YD := yD_537 :: yD536
theorem yk_537 : ychk yKD (yct yCT0 yD536) xMT xFT yEX xm242 yD_537.2.1 yD_537.2.2.1 400 = true := by decide +kernel
-- IceBoatsModel.isCourse
def yD_538 : YD := (242, ([(1, 30, 0), (0, 0, 63), (0, 0, 5), (0, 0, 5), (0, 0, 12)], [], true, [(some (.inl (0, 0, 1)), [])]), [(17, [(0, 1, (1, 30, 0)), (1, 1, (0, 0, 63)), (2, 1, (0, 0, 5)), (3, 1, (0, 0, 5)), (4, 1, (0, 0, 12)), (5, 1, (0, -9, 40)), (6, 1, (0, 0, 63)), (7, 1, (0, 0, 1)), (8, 1, (0, 0, 40))], [(0, 7, (1, 32, 0))], [], (3443, [(8, -84)])), (78, [(0, 1, (1, 30, 0)), (1, 1, (0, 0, 63)), (2, 1, (0, 0, 5)), (3, 1, (0, 0, 5)), (4, 1, (0, 0, 12)), (5, 1, (0, 1, 40)), (6, 1, (0, 0, 63)), (7, 1, (0, 0, 1)), (8, 1, (0, 0, 39)), (9, 2, (0, 0, 20))], [(0, 7, (1, 32, 0))], [], (3441, [(8, -84), (9, -4)]))], 400)
def yD538 : List YD := yD_538 :: yD537
theorem yk_538 : ychk yKD (yct yCT0 yD537) xMT xFT yEX xm242 yD_538.2.1 yD_538.2.2.1 400 = true := by decide +kernel
-- IceBoatsModel.isCourse
def yD_539 : YD := (242, ([(1, 30, 0), (0, 0, 63), (0, 0, 5), (0, 0, 5), (0, 0, 13)], [], true, [(some (.inl (0, 0, 1)), [])]), [(17, [(0, 1, (1, 30, 0)), (1, 1, (0, 0, 63)), (2, 1, (0, 0, 5)), (3, 1, (0, 0, 5)), (4, 1, (0, 0, 13)), (5, 1, (0, -9, 40)), (6, 1, (0, 0, 63)), (7, 1, (0, 0, 1)), (8, 1, (0, 0, 40))], [(0, 7, (1, 32, 0))], [], (3443, [(8, -84)])), (78, [(0, 1, (1, 30, 0)), (1, 1, (0, 0, 63)), (2, 1, (0, 0, 5)), (3, 1, (0, 0, 5)), (4, 1, (0, 0, 13)), (5, 1, (0, 1, 40)), (6, 1, (0, 0, 63)), (7, 1, (0, 0, 1)), (8, 1, (0, 0, 39)), (9, 2, (0, 0, 20))], [(0, 7, (1, 32, 0))], [], (3441, [(8, -84), (9, -4)]))], 400)
def yD539 : List YD := yD_539 :: yD538
theorem yk_539 : ychk yKD (yct yCT0 yD538) xMT xFT yEX xm242 yD_539.2.1 yD_539.2.2.1 400 = true := by decide +kernel
-- IceBoatsModel.isCourse
def yD_540 : YD := (242, ([(1, 30, 0), (0, 0, 63), (0, 0, 5), (0, 0, 5), (0, 0, 14)], [], true, [(some (.inl (0, 0, 1)), [])]), [(17, [(0, 1, (1, 30, 0)), (1, 1, (0, 0, 63)), (2, 1, (0, 0, 5)), (3, 1, (0, 0, 5)), (4, 1, (0, 0, 14)), (5, 1, (0, -9, 40)), (6, 1, (0, 0, 63)), (7, 1, (0, 0, 1)), (8, 1, (0, 0, 40))], [(0, 7, (1, 32, 0))], [], (3443, [(8, -84)])), (78, [(0, 1, (1, 30, 0)), (1, 1, (0, 0, 63)), (2, 1, (0, 0, 5)), (3, 1, (0, 0, 5)), (4, 1, (0, 0, 14)), (5, 1, (0, 1, 40)), (6, 1, (0, 0, 63)), (7, 1, (0, 0, 1)), (8, 1, (0, 0, 39)), (9, 2, (0, 0, 20))], [(0, 7, (1, 32, 0))], [], (3441, [(8, -84), (9, -4)]))], 400)
def yD540 : List YD := yD_540 :: yD539
theorem yk_540 : ychk yKD (yct yCT0 yD539) xMT xFT yEX xm242 yD_540.2.1 yD_540.2.2.1 400 = true := by decide +kernel
-- IceBoatsModel.isCourse
def yD_541 : YD := (242, ([(1, 30, 0), (0, 0, 63), (0, 0, 5), (0, 0, 5), (0, 0, 15)], [], true, [(some (.inl (0, 0, 1)), [])]), [(17, [(0, 1, (1, 30, 0)), (1, 1, (0, 0, 63)), (2, 1, (0, 0, 5)), (3, 1, (0, 0, 5)), (4, 1, (0, 0, 15)), (5, 1, (0, -9, 40)), (6, 1, (0, 0, 63)), (7, 1, (0, 0, 1)), (8, 1, (0, 0, 40))], [(0, 7, (1, 32, 0))], [], (3443, [(8, -84)])), (78, [(0, 1, (1, 30, 0)), (1, 1, (0, 0, 63)), (2, 1, (0, 0, 5)), (3, 1, (0, 0, 5)), (4, 1, (0, 0, 15)), (5, 1, (0, 1, 40)), (6, 1, (0, 0, 63)), (7, 1, (0, 0, 1)), (8, 1, (0, 0, 39)), (9, 2, (0, 0, 20))], [(0, 7, (1, 32, 0))], [], (3441, [(8, -84), (9, -4)]))], 400)
def yD541 : List YD := yD_541 :: yD540
theorem yk_541 : ychk yKD (yct yCT0 yD540) xMT xFT yEX xm242 yD_541.2.1 yD_541.2.2.1 400 = true := by decide +kernel
-- IceBoatsModel.isCourse
def yD_542 : YD := (242, ([(1, 30, 0), (0, 0, 63), (0, 0, 5), (0, 0, 5), (0, 0, 16)], [], true, [(some (.inl (0, 0, 1)), [])]), [(17, [(0, 1, (1, 30, 0)), (1, 1, (0, 0, 63)), (2, 1, (0, 0, 5)), (3, 1, (0, 0, 5)), (4, 1, (0, 0, 16)), (5, 1, (0, -9, 40)), (6, 1, (0, 0, 63)), (7, 1, (0, 0, 1)), (8, 1, (0, 0, 40))], [(0, 7, (1, 32, 0))], [], (3443, [(8, -84)])), (78, [(0, 1, (1, 30, 0)), (1, 1, (0, 0, 63)), (2, 1, (0, 0, 5)), (3, 1, (0, 0, 5)), (4, 1, (0, 0, 16)), (5, 1, (0, 1, 40)), (6, 1, (0, 0, 63)), (7, 1, (0, 0, 1)), (8, 1, (0, 0, 39)), (9, 2, (0, 0, 20))], [(0, 7, (1, 32, 0))], [], (3441, [(8, -84), (9, -4)]))], 400)
def yD542 : List YD := yD_542 :: yD541
theorem yk_542 : ychk yKD (yct yCT0 yD541) xMT xFT yEX xm242 yD_542.2.1 yD_542.2.2.1 400 = true := by decide +kernel
-- IceBoatsModel.isCourse
def yD_543 : YD := (242, ([(1, 30, 0), (0, 0, 63), (0, 0, 5), (0, 0, 5), (0, 0, 20)], [], true, [(some (.inl (0, 0, 1)), [])]), [(17, [(0, 1, (1, 30, 0)), (1, 1, (0, 0, 63)), (2, 1, (0, 0, 5)), (3, 1, (0, 0, 5)), (4, 1, (0, 0, 20)), (5, 1, (0, -9, 40)), (6, 1, (0, 0, 63)), (7, 1, (0, 0, 1)), (8, 1, (0, 0, 40))], [(0, 7, (1, 32, 0))], [], (3443, [(8, -84)])), (78, [(0, 1, (1, 30, 0)), (1, 1, (0, 0, 63)), (2, 1, (0, 0, 5)), (3, 1, (0, 0, 5)), (4, 1, (0, 0, 20)), (5, 1, (0, 1, 40)), (6, 1, (0, 0, 63)), (7, 1, (0, 0, 1)), (8, 1, (0, 0, 39)), (9, 2, (0, 0, 20))], [(0, 7, (1, 32, 0))], [], (3441, [(8, -84), (9, -4)]))], 400)
def yD543 : List YD := yD_543 :: yD542
theorem yk_543 : ychk yKD (yct yCT0 yD542) xMT xFT yEX xm242 yD_543.2.1 yD_543.2.2.1 400 = true := by decide +kernel
-- IceBoatsModel.isCourse
def yD_544 : YD := (242, ([(1, 30, 0), (0, 0, 63), (0, 0, 5), (0, 0, 5), (0, 0, 21)], [], true, [(some (.inl (0, 0, 1)), [])]), [(17, [(0, 1, (1, 30, 0)), (1, 1, (0, 0, 63)), (2, 1, (0, 0, 5)), (3, 1, (0, 0, 5)), (4, 1, (0, 0, 21)), (5, 1, (0, -9, 40)), (6, 1, (0, 0, 63)), (7, 1, (0, 0, 1)), (8, 1, (0, 0, 40))], [(0, 7, (1, 32, 0))], [], (3443, [(8, -84)])), (78, [(0, 1, (1, 30, 0)), (1, 1, (0, 0, 63)), (2, 1, (0, 0, 5)), (3, 1, (0, 0, 5)), (4, 1, (0, 0, 21)), (5, 1, (0, 1, 40)), (6, 1, (0, 0, 63)), (7, 1, (0, 0, 1)), (8, 1, (0, 0, 39)), (9, 2, (0, 0, 20))], [(0, 7, (1, 32, 0))], [], (3441, [(8, -84), (9, -4)]))], 400)
def yD544 : List YD := yD_544 :: yD543
theorem yk_544 : ychk yKD (yct yCT0 yD543) xMT xFT yEX xm242 yD_544.2.1 yD_544.2.2.1 400 = true := by decide +kernel
-- IceBoatsModel.isCourse
def yD_545 : YD := (242, ([(1, 30, 0), (0, 0, 63), (0, 0, 5), (0, 0, 5), (0, 0, 24)], [], true, [(some (.inl (0, 0, 1)), [])]), [(17, [(0, 1, (1, 30, 0)), (1, 1, (0, 0, 63)), (2, 1, (0, 0, 5)), (3, 1, (0, 0, 5)), (4, 1, (0, 0, 24)), (5, 1, (0, -9, 40)), (6, 1, (0, 0, 63)), (7, 1, (0, 0, 1)), (8, 1, (0, 0, 40))], [(0, 7, (1, 32, 0))], [], (3443, [(8, -84)])), (78, [(0, 1, (1, 30, 0)), (1, 1, (0, 0, 63)), (2, 1, (0, 0, 5)), (3, 1, (0, 0, 5)), (4, 1, (0, 0, 24)), (5, 1, (0, 1, 40)), (6, 1, (0, 0, 63)), (7, 1, (0, 0, 1)), (8, 1, (0, 0, 39)), (9, 2, (0, 0, 20))], [(0, 7, (1, 32, 0))], [], (3441, [(8, -84), (9, -4)]))], 400)
def yD545 : List YD := yD_545 :: yD544
theorem yk_545 : ychk yKD (yct yCT0 yD544) xMT xFT yEX xm242 yD_545.2.1 yD_545.2.2.1 400 = true := by decide +kernel
-- IceBoatsModel.isCourse
def yD_546 : YD := (242, ([(1, 30, 0), (0, 0, 63), (0, 0, 5), (0, 0, 5), (0, 0, 36)], [], true, [(some (.inl (0, 0, 1)), [])]), [(17, [(0, 1, (1, 30, 0)), (1, 1, (0, 0, 63)), (2, 1, (0, 0, 5)), (3, 1, (0, 0, 5)), (4, 1, (0, 0, 36)), (5, 1, (0, -9, 40)), (6, 1, (0, 0, 63)), (7, 1, (0, 0, 1)), (8, 1, (0, 0, 40))], [(0, 7, (1, 32, 0))], [], (3443, [(8, -84)])), (78, [(0, 1, (1, 30, 0)), (1, 1, (0, 0, 63)), (2, 1, (0, 0, 5)), (3, 1, (0, 0, 5)), (4, 1, (0, 0, 36)), (5, 1, (0, 1, 40)), (6, 1, (0, 0, 63)), (7, 1, (0, 0, 1)), (8, 1, (0, 0, 39)), (9, 2, (0, 0, 20))], [(0, 7, (1, 32, 0))], [], (3441, [(8, -84), (9, -4)]))], 400)
def yD546 : List YD := yD_546 :: yD545
theorem yk_546 : ychk yKD (yct yCT0 yD545) xMT xFT yEX xm242 yD_546.2.1 yD_546.2.2.1 400 = true := by decide +kernel
-- IceBoatsModel.isCourse
def yD_547 : YD := (242, ([(1, 30, 0), (0, 0, 63), (0, 0, 5), (0, 0, 5), (0, 0, 39)], [], true, [(some (.inl (0, 0, 1)), [])]), [(17, [(0, 1, (1, 30, 0)), (1, 1, (0, 0, 63)), (2, 1, (0, 0, 5)), (3, 1, (0, 0, 5)), (4, 1, (0, 0, 39)), (5, 1, (0, -9, 40)), (6, 1, (0, 0, 63)), (7, 1, (0, 0, 1)), (8, 1, (0, 0, 40))], [(0, 7, (1, 32, 0))], [], (3443, [(8, -84)])), (78, [(0, 1, (1, 30, 0)), (1, 1, (0, 0, 63)), (2, 1, (0, 0, 5)), (3, 1, (0, 0, 5)), (4, 1, (0, 0, 39)), (5, 1, (0, 1, 40)), (6, 1, (0, 0, 63)), (7, 1, (0, 0, 1)), (8, 1, (0, 0, 39)), (9, 2, (0, 0, 20))], [(0, 7, (1, 32, 0))], [], (3441, [(8, -84), (9, -4)]))], 400)
def yD547 : List YD := yD_547 :: yD546
theorem yk_547 : ychk yKD (yct yCT0 yD546) xMT xFT yEX xm242 yD_547.2.1 yD_547.2.2.1 400 = true := by decide +kernel
-- IceBoatsModel.isCourse
def yD_548 : YD := (242, ([(1, 30, 0), (0, 0, 63), (0, 0, 5), (0, 0, 5), (0, 0, 40)], [], true, [(some (.inl (0, 0, 1)), [])]), [(17, [(0, 1, (1, 30, 0)), (1, 1, (0, 0, 63)), (2, 1, (0, 0, 5)), (3, 1, (0, 0, 5)), (4, 1, (0, 0, 40)), (5, 1, (0, -9, 40)), (6, 1, (0, 0, 63)), (7, 1, (0, 0, 1)), (8, 1, (0, 0, 40))], [(0, 7, (1, 32, 0))], [], (3443, [(8, -84)])), (78, [(0, 1, (1, 30, 0)), (1, 1, (0, 0, 63)), (2, 1, (0, 0, 5)), (3, 1, (0, 0, 5)), (4, 1, (0, 0, 40)), (5, 1, (0, 1, 40)), (6, 1, (0, 0, 63)), (7, 1, (0, 0, 1)), (8, 1, (0, 0, 39)), (9, 2, (0, 0, 20))], [(0, 7, (1, 32, 0))], [], (3441, [(8, -84), (9, -4)]))], 400)
def yD548 : List YD := yD_548 :: yD547
theorem yk_548 : ychk yKD (yct yCT0 yD547) xMT xFT yEX xm242 yD_548.2.1 yD_548.2.2.1 400 = true := by decide +kernel
-- IceBoatsModel.isCourse
def yD_549 : YD := (242, ([(1, 30, 0), (0, 0, 63), (0, 0, 5), (0, 0, 5), (0, 0, 41)], [], true, [(some (.inl (0, 0, 1)), [])]), [(17, [(0, 1, (1, 30, 0)), (1, 1, (0, 0, 63)), (2, 1, (0, 0, 5)), (3, 1, (0, 0, 5)), (4, 1, (0, 0, 41)), (5, 1, (0, -9, 40)), (6, 1, (0, 0, 63)), (7, 1, (0, 0, 1)), (8, 1, (0, 0, 40))], [(0, 7, (1, 32, 0))], [], (3443, [(8, -84)])), (78, [(0, 1, (1, 30, 0)), (1, 1, (0, 0, 63)), (2, 1, (0, 0, 5)), (3, 1, (0, 0, 5)), (4, 1, (0, 0, 41)), (5, 1, (0, 1, 40)), (6, 1, (0, 0, 63)), (7, 1, (0, 0, 1)), (8, 1, (0, 0, 39)), (9, 2, (0, 0, 20))], [(0, 7, (1, 32, 0))], [], (3441, [(8, -84), (9, -4)]))], 400)
def yD549 : List YD := yD_549 :: yD548
theorem yk_549 : ychk yKD (yct yCT0 yD548) xMT xFT yEX xm242 yD_549.2.1 yD_549.2.2.1 400 = true := by decide +kernel
-- IceBoatsModel.isCourse
def yD_550 : YD := (242, ([(1, 30, 0), (0, 0, 63), (0, 0, 5), (0, 0, 5), (0, 0, 48)], [], true, [(some (.inl (0, 0, 1)), [])]), [(17, [(0, 1, (1, 30, 0)), (1, 1, (0, 0, 63)), (2, 1, (0, 0, 5)), (3, 1, (0, 0, 5)), (4, 1, (0, 0, 48)), (5, 1, (0, -9, 40)), (6, 1, (0, 0, 63)), (7, 1, (0, 0, 1)), (8, 1, (0, 0, 40))], [(0, 7, (1, 32, 0))], [], (3443, [(8, -84)])), (78, [(0, 1, (1, 30, 0)), (1, 1, (0, 0, 63)), (2, 1, (0, 0, 5)), (3, 1, (0, 0, 5)), (4, 1, (0, 0, 48)), (5, 1, (0, 1, 40)), (6, 1, (0, 0, 63)), (7, 1, (0, 0, 1)), (8, 1, (0, 0, 39)), (9, 2, (0, 0, 20))], [(0, 7, (1, 32, 0))], [], (3441, [(8, -84), (9, -4)]))], 400)
def yD550 : List YD := yD_550 :: yD549
theorem yk_550 : ychk yKD (yct yCT0 yD549) xMT xFT yEX xm242 yD_550.2.1 yD_550.2.2.1 400 = true := by decide +kernel
-- IceBoatsModel.isCourse
def yD_551 : YD := (242, ([(1, 30, 0), (0, 0, 63), (0, 0, 5), (0, 0, 5), (0, 0, 49)], [], true, [(some (.inl (0, 0, 1)), [])]), [(17, [(0, 1, (1, 30, 0)), (1, 1, (0, 0, 63)), (2, 1, (0, 0, 5)), (3, 1, (0, 0, 5)), (4, 1, (0, 0, 49)), (5, 1, (0, -9, 40)), (6, 1, (0, 0, 63)), (7, 1, (0, 0, 1)), (8, 1, (0, 0, 40))], [(0, 7, (1, 32, 0))], [], (3443, [(8, -84)])), (78, [(0, 1, (1, 30, 0)), (1, 1, (0, 0, 63)), (2, 1, (0, 0, 5)), (3, 1, (0, 0, 5)), (4, 1, (0, 0, 49)), (5, 1, (0, 1, 40)), (6, 1, (0, 0, 63)), (7, 1, (0, 0, 1)), (8, 1, (0, 0, 39)), (9, 2, (0, 0, 20))], [(0, 7, (1, 32, 0))], [], (3441, [(8, -84), (9, -4)]))], 400)
def yD551 : List YD := yD_551 :: yD550
theorem yk_551 : ychk yKD (yct yCT0 yD550) xMT xFT yEX xm242 yD_551.2.1 yD_551.2.2.1 400 = true := by decide +kernel
-- IceBoatsModel.isCourse
def yD_552 : YD := (242, ([(1, 30, 0), (0, 0, 63), (0, 0, 5), (0, 0, 5), (0, 0, 63)], [], true, [(some (.inl (0, 0, 1)), [])]), [(17, [(0, 1, (1, 30, 0)), (1, 1, (0, 0, 63)), (2, 1, (0, 0, 5)), (3, 1, (0, 0, 5)), (4, 1, (0, 0, 63)), (5, 1, (0, -9, 40)), (6, 1, (0, 0, 63)), (7, 1, (0, 0, 1)), (8, 1, (0, 0, 40))], [(0, 7, (1, 32, 0))], [], (3443, [(8, -84)])), (78, [(0, 1, (1, 30, 0)), (1, 1, (0, 0, 63)), (2, 1, (0, 0, 5)), (3, 1, (0, 0, 5)), (4, 1, (0, 0, 63)), (5, 1, (0, 1, 40)), (6, 1, (0, 0, 63)), (7, 1, (0, 0, 1)), (8, 1, (0, 0, 39)), (9, 2, (0, 0, 20))], [(0, 7, (1, 32, 0))], [], (3441, [(8, -84), (9, -4)]))], 400)
def yD552 : List YD := yD_552 :: yD551
theorem yk_552 : ychk yKD (yct yCT0 yD551) xMT xFT yEX xm242 yD_552.2.1 yD_552.2.2.1 400 = true := by decide +kernel
-- IceBoatsModel.isCourse
def yD_553 : YD := (242, ([(1, 30, 0), (0, 0, 63), (0, 0, 5), (0, 0, 5), (0, 0, 64)], [], true, [(some (.inl (0, 0, 1)), [])]), [(17, [(0, 1, (1, 30, 0)), (1, 1, (0, 0, 63)), (2, 1, (0, 0, 5)), (3, 1, (0, 0, 5)), (4, 1, (0, 0, 64)), (5, 1, (0, -9, 40)), (6, 1, (0, 0, 63)), (7, 1, (0, 0, 1)), (8, 1, (0, 0, 40))], [(0, 7, (1, 32, 0))], [], (3443, [(8, -84)])), (78, [(0, 1, (1, 30, 0)), (1, 1, (0, 0, 63)), (2, 1, (0, 0, 5)), (3, 1, (0, 0, 5)), (4, 1, (0, 0, 64)), (5, 1, (0, 1, 40)), (6, 1, (0, 0, 63)), (7, 1, (0, 0, 1)), (8, 1, (0, 0, 39)), (9, 2, (0, 0, 20))], [(0, 7, (1, 32, 0))], [], (3441, [(8, -84), (9, -4)]))], 400)
def yD553 : List YD := yD_553 :: yD552
theorem yk_553 : ychk yKD (yct yCT0 yD552) xMT xFT yEX xm242 yD_553.2.1 yD_553.2.2.1 400 = true := by decide +kernel
-- IceBoatsModel.isCourse
def yD_554 : YD := (242, ([(1, 30, 0), (0, 0, 63), (0, 0, 5), (0, 0, 5), (0, 0, 100)], [], true, [(some (.inl (0, 0, 1)), [])]), [(17, [(0, 1, (1, 30, 0)), (1, 1, (0, 0, 63)), (2, 1, (0, 0, 5)), (3, 1, (0, 0, 5)), (4, 1, (0, 0, 100)), (5, 1, (0, -9, 40)), (6, 1, (0, 0, 63)), (7, 1, (0, 0, 1)), (8, 1, (0, 0, 40))], [(0, 7, (1, 32, 0))], [], (3443, [(8, -84)])), (78, [(0, 1, (1, 30, 0)), (1, 1, (0, 0, 63)), (2, 1, (0, 0, 5)), (3, 1, (0, 0, 5)), (4, 1, (0, 0, 100)), (5, 1, (0, 1, 40)), (6, 1, (0, 0, 63)), (7, 1, (0, 0, 1)), (8, 1, (0, 0, 39)), (9, 2, (0, 0, 20))], [(0, 7, (1, 32, 0))], [], (3441, [(8, -84), (9, -4)]))], 400)
def yD554 : List YD := yD_554 :: yD553
theorem yk_554 : ychk yKD (yct yCT0 yD553) xMT xFT yEX xm242 yD_554.2.1 yD_554.2.2.1 400 = true := by decide +kernel
-- IceBoatsModel.isCourse
def yD_555 : YD := (242, ([(1, 30, 0), (0, 0, 63), (0, 0, 5), (0, 0, 5), (0, 0, 160)], [], true, [(some (.inl (0, 0, 1)), [])]), [(17, [(0, 1, (1, 30, 0)), (1, 1, (0, 0, 63)), (2, 1, (0, 0, 5)), (3, 1, (0, 0, 5)), (4, 1, (0, 0, 160)), (5, 1, (0, -9, 40)), (6, 1, (0, 0, 63)), (7, 1, (0, 0, 1)), (8, 1, (0, 0, 40))], [(0, 7, (1, 32, 0))], [], (3443, [(8, -84)])), (78, [(0, 1, (1, 30, 0)), (1, 1, (0, 0, 63)), (2, 1, (0, 0, 5)), (3, 1, (0, 0, 5)), (4, 1, (0, 0, 160)), (5, 1, (0, 1, 40)), (6, 1, (0, 0, 63)), (7, 1, (0, 0, 1)), (8, 1, (0, 0, 39)), (9, 2, (0, 0, 20))], [(0, 7, (1, 32, 0))], [], (3441, [(8, -84), (9, -4)]))], 400)
def yD555 : List YD := yD_555 :: yD554
theorem yk_555 : ychk yKD (yct yCT0 yD554) xMT xFT yEX xm242 yD_555.2.1 yD_555.2.2.1 400 = true := by decide +kernel
-- IceBoatsModel.isCourse
def yD_556 : YD := (242, ([(1, 30, 0), (0, 0, 63), (0, 0, 5), (0, 0, 5), (0, 0, 216)], [], true, [(some (.inl (0, 0, 1)), [])]), [(17, [(0, 1, (1, 30, 0)), (1, 1, (0, 0, 63)), (2, 1, (0, 0, 5)), (3, 1, (0, 0, 5)), (4, 1, (0, 0, 216)), (5, 1, (0, -9, 40)), (6, 1, (0, 0, 63)), (7, 1, (0, 0, 1)), (8, 1, (0, 0, 40))], [(0, 7, (1, 32, 0))], [], (3443, [(8, -84)])), (78, [(0, 1, (1, 30, 0)), (1, 1, (0, 0, 63)), (2, 1, (0, 0, 5)), (3, 1, (0, 0, 5)), (4, 1, (0, 0, 216)), (5, 1, (0, 1, 40)), (6, 1, (0, 0, 63)), (7, 1, (0, 0, 1)), (8, 1, (0, 0, 39)), (9, 2, (0, 0, 20))], [(0, 7, (1, 32, 0))], [], (3441, [(8, -84), (9, -4)]))], 400)
def yD556 : List YD := yD_556 :: yD555
theorem yk_556 : ychk yKD (yct yCT0 yD555) xMT xFT yEX xm242 yD_556.2.1 yD_556.2.2.1 400 = true := by decide +kernel
-- IceBoatsModel.isCourse
def yD_557 : YD := (242, ([(1, 30, 0), (0, 0, 63), (0, 0, 5), (0, 0, 5), (0, 0, 240)], [], true, [(some (.inl (0, 0, 1)), [])]), [(17, [(0, 1, (1, 30, 0)), (1, 1, (0, 0, 63)), (2, 1, (0, 0, 5)), (3, 1, (0, 0, 5)), (4, 1, (0, 0, 240)), (5, 1, (0, -9, 40)), (6, 1, (0, 0, 63)), (7, 1, (0, 0, 1)), (8, 1, (0, 0, 40))], [(0, 7, (1, 32, 0))], [], (3443, [(8, -84)])), (78, [(0, 1, (1, 30, 0)), (1, 1, (0, 0, 63)), (2, 1, (0, 0, 5)), (3, 1, (0, 0, 5)), (4, 1, (0, 0, 240)), (5, 1, (0, 1, 40)), (6, 1, (0, 0, 63)), (7, 1, (0, 0, 1)), (8, 1, (0, 0, 39)), (9, 2, (0, 0, 20))], [(0, 7, (1, 32, 0))], [], (3441, [(8, -84), (9, -4)]))], 400)
def yD557 : List YD := yD_557 :: yD556
theorem yk_557 : ychk yKD (yct yCT0 yD556) xMT xFT yEX xm242 yD_557.2.1 yD_557.2.2.1 400 = true := by decide +kernel
-- IceBoatsModel.isCourse
def yD_558 : YD := (242, ([(1, 30, 0), (0, 0, 63), (0, 0, 5), (0, 0, 5), (0, 0, 256)], [], true, [(some (.inl (0, 0, 1)), [])]), [(17, [(0, 1, (1, 30, 0)), (1, 1, (0, 0, 63)), (2, 1, (0, 0, 5)), (3, 1, (0, 0, 5)), (4, 1, (0, 0, 256)), (5, 1, (0, -9, 40)), (6, 1, (0, 0, 63)), (7, 1, (0, 0, 1)), (8, 1, (0, 0, 40))], [(0, 7, (1, 32, 0))], [], (3443, [(8, -84)])), (78, [(0, 1, (1, 30, 0)), (1, 1, (0, 0, 63)), (2, 1, (0, 0, 5)), (3, 1, (0, 0, 5)), (4, 1, (0, 0, 256)), (5, 1, (0, 1, 40)), (6, 1, (0, 0, 63)), (7, 1, (0, 0, 1)), (8, 1, (0, 0, 39)), (9, 2, (0, 0, 20))], [(0, 7, (1, 32, 0))], [], (3441, [(8, -84), (9, -4)]))], 400)
def yD558 : List YD := yD_558 :: yD557
theorem yk_558 : ychk yKD (yct yCT0 yD557) xMT xFT yEX xm242 yD_558.2.1 yD_558.2.2.1 400 = true := by decide +kernel
-- IceBoatsModel.isCourse
def yD_559 : YD := (242, ([(1, 30, 0), (0, 0, 63), (0, 0, 5), (0, 0, 5), (0, 0, 257)], [], true, [(some (.inl (0, 0, 1)), [])]), [(17, [(0, 1, (1, 30, 0)), (1, 1, (0, 0, 63)), (2, 1, (0, 0, 5)), (3, 1, (0, 0, 5)), (4, 1, (0, 0, 257)), (5, 1, (0, -9, 40)), (6, 1, (0, 0, 63)), (7, 1, (0, 0, 1)), (8, 1, (0, 0, 40))], [(0, 7, (1, 32, 0))], [], (3443, [(8, -84)])), (78, [(0, 1, (1, 30, 0)), (1, 1, (0, 0, 63)), (2, 1, (0, 0, 5)), (3, 1, (0, 0, 5)), (4, 1, (0, 0, 257)), (5, 1, (0, 1, 40)), (6, 1, (0, 0, 63)), (7, 1, (0, 0, 1)), (8, 1, (0, 0, 39)), (9, 2, (0, 0, 20))], [(0, 7, (1, 32, 0))], [], (3441, [(8, -84), (9, -4)]))], 400)
def yD559 : List YD := yD_559 :: yD558
theorem yk_559 : ychk yKD (yct yCT0 yD558) xMT xFT yEX xm242 yD_559.2.1 yD_559.2.2.1 400 = true := by decide +kernel
-- IceBoatsModel.isCourse
def yD_560 : YD := (242, ([(1, 30, 0), (0, 0, 63), (0, 0, 5), (0, 0, 5), (0, 0, 343)], [], true, [(some (.inl (0, 0, 1)), [])]), [(17, [(0, 1, (1, 30, 0)), (1, 1, (0, 0, 63)), (2, 1, (0, 0, 5)), (3, 1, (0, 0, 5)), (4, 1, (0, 0, 343)), (5, 1, (0, -9, 40)), (6, 1, (0, 0, 63)), (7, 1, (0, 0, 1)), (8, 1, (0, 0, 40))], [(0, 7, (1, 32, 0))], [], (3443, [(8, -84)])), (78, [(0, 1, (1, 30, 0)), (1, 1, (0, 0, 63)), (2, 1, (0, 0, 5)), (3, 1, (0, 0, 5)), (4, 1, (0, 0, 343)), (5, 1, (0, 1, 40)), (6, 1, (0, 0, 63)), (7, 1, (0, 0, 1)), (8, 1, (0, 0, 39)), (9, 2, (0, 0, 20))], [(0, 7, (1, 32, 0))], [], (3441, [(8, -84), (9, -4)]))], 400)
def yD560 : List YD := yD_560 :: yD559
theorem yk_560 : ychk yKD (yct yCT0 yD559) xMT xFT yEX xm242 yD_560.2.1 yD_560.2.2.1 400 = true := by decide +kernel
-- IceBoatsModel.isCourse
def yD_561 : YD := (242, ([(1, 30, 0), (0, 0, 63), (0, 0, 5), (0, 0, 5), (0, 0, 999)], [], true, [(some (.inl (0, 0, 1)), [])]), [(17, [(0, 1, (1, 30, 0)), (1, 1, (0, 0, 63)), (2, 1, (0, 0, 5)), (3, 1, (0, 0, 5)), (4, 1, (0, 0, 999)), (5, 1, (0, -9, 40)), (6, 1, (0, 0, 63)), (7, 1, (0, 0, 1)), (8, 1, (0, 0, 40))], [(0, 7, (1, 32, 0))], [], (3443, [(8, -84)])), (78, [(0, 1, (1, 30, 0)), (1, 1, (0, 0, 63)), (2, 1, (0, 0, 5)), (3, 1, (0, 0, 5)), (4, 1, (0, 0, 999)), (5, 1, (0, 1, 40)), (6, 1, (0, 0, 63)), (7, 1, (0, 0, 1)), (8, 1, (0, 0, 39)), (9, 2, (0, 0, 20))], [(0, 7, (1, 32, 0))], [], (3441, [(8, -84), (9, -4)]))], 400)
def yD561 : List YD := yD_561 :: yD560
theorem yk_561 : ychk yKD (yct yCT0 yD560) xMT xFT yEX xm242 yD_561.2.1 yD_561.2.2.1 400 = true := by decide +kernel
-- IceBoatsModel.isCourse
def yD_562 : YD := (242, ([(1, 30, 0), (0, 0, 63), (0, 0, 5), (0, 0, 5), (0, 0, 1000)], [], true, [(some (.inl (0, 0, 1)), [])]), [(17, [(0, 1, (1, 30, 0)), (1, 1, (0, 0, 63)), (2, 1, (0, 0, 5)), (3, 1, (0, 0, 5)), (4, 1, (0, 0, 1000)), (5, 1, (0, -9, 40)), (6, 1, (0, 0, 63)), (7, 1, (0, 0, 1)), (8, 1, (0, 0, 40))], [(0, 7, (1, 32, 0))], [], (3443, [(8, -84)])), (78, [(0, 1, (1, 30, 0)), (1, 1, (0, 0, 63)), (2, 1, (0, 0, 5)), (3, 1, (0, 0, 5)), (4, 1, (0, 0, 1000)), (5, 1, (0, 1, 40)), (6, 1, (0, 0, 63)), (7, 1, (0, 0, 1)), (8, 1, (0, 0, 39)), (9, 2, (0, 0, 20))], [(0, 7, (1, 32, 0))], [], (3441, [(8, -84), (9, -4)]))], 400)
def yD562 : List YD := yD_562 :: yD561
theorem yk_562 : ychk yKD (yct yCT0 yD561) xMT xFT yEX xm242 yD_562.2.1 yD_562.2.2.1 400 = true := by decide +kernel
-- IceBoatsModel.isCourse
def yD_563 : YD := (242, ([(1, 30, 0), (0, 0, 63), (0, 0, 5), (0, 0, 5), (0, 0, 1024)], [], true, [(some (.inl (0, 0, 1)), [])]), [(17, [(0, 1, (1, 30, 0)), (1, 1, (0, 0, 63)), (2, 1, (0, 0, 5)), (3, 1, (0, 0, 5)), (4, 1, (0, 0, 1024)), (5, 1, (0, -9, 40)), (6, 1, (0, 0, 63)), (7, 1, (0, 0, 1)), (8, 1, (0, 0, 40))], [(0, 7, (1, 32, 0))], [], (3443, [(8, -84)])), (78, [(0, 1, (1, 30, 0)), (1, 1, (0, 0, 63)), (2, 1, (0, 0, 5)), (3, 1, (0, 0, 5)), (4, 1, (0, 0, 1024)), (5, 1, (0, 1, 40)), (6, 1, (0, 0, 63)), (7, 1, (0, 0, 1)), (8, 1, (0, 0, 39)), (9, 2, (0, 0, 20))], [(0, 7, (1, 32, 0))], [], (3441, [(8, -84), (9, -4)]))], 400)
def yD563 : List YD := yD_563 :: yD562
theorem yk_563 : ychk yKD (yct yCT0 yD562) xMT xFT yEX xm242 yD_563.2.1 yD_563.2.2.1 400 = true := by decide +kernel
-- IceBoatsModel.isCourse
def yD_564 : YD := (242, ([(1, 30, 0), (0, 0, 63), (0, 0, 5), (0, 0, 5), (0, 0, 65536)], [], true, [(some (.inl (0, 0, 1)), [])]), [(17, [(0, 1, (1, 30, 0)), (1, 1, (0, 0, 63)), (2, 1, (0, 0, 5)), (3, 1, (0, 0, 5)), (4, 1, (0, 0, 65536)), (5, 1, (0, -9, 40)), (6, 1, (0, 0, 63)), (7, 1, (0, 0, 1)), (8, 1, (0, 0, 40))], [(0, 7, (1, 32, 0))], [], (3443, [(8, -84)])), (78, [(0, 1, (1, 30, 0)), (1, 1, (0, 0, 63)), (2, 1, (0, 0, 5)), (3, 1, (0, 0, 5)), (4, 1, (0, 0, 65536)), (5, 1, (0, 1, 40)), (6, 1, (0, 0, 63)), (7, 1, (0, 0, 1)), (8, 1, (0, 0, 39)), (9, 2, (0, 0, 20))], [(0, 7, (1, 32, 0))], [], (3441, [(8, -84), (9, -4)]))], 400)
def yD564 : List YD := yD_564 :: yD563
theorem yk_564 : ychk yKD (yct yCT0 yD563) xMT xFT yEX xm242 yD_564.2.1 yD_564.2.2.1 400 = true := by decide +kernel
-- IceBoatsModel.isCourse
def yD_565 : YD := (242, ([(1, 30, 0), (0, 0, 63), (0, 0, 5), (0, 0, 5), (0, 0, 2147483647)], [], true, [(some (.inl (0, 0, 1)), [])]), [(17, [(0, 1, (1, 30, 0)), (1, 1, (0, 0, 63)), (2, 1, (0, 0, 5)), (3, 1, (0, 0, 5)), (4, 1, (0, 0, 2147483647)), (5, 1, (0, -9, 40)), (6, 1, (0, 0, 63)), (7, 1, (0, 0, 1)), (8, 1, (0, 0, 40))], [(0, 7, (1, 32, 0))], [], (3443, [(8, -84)])), (78, [(0, 1, (1, 30, 0)), (1, 1, (0, 0, 63)), (2, 1, (0, 0, 5)), (3, 1, (0, 0, 5)), (4, 1, (0, 0, 2147483647)), (5, 1, (0, 1, 40)), (6, 1, (0, 0, 63)), (7, 1, (0, 0, 1)), (8, 1, (0, 0, 39)), (9, 2, (0, 0, 20))], [(0, 7, (1, 32, 0))], [], (3441, [(8, -84), (9, -4)]))], 400)
def yD565 : List YD := yD_565 :: yD564
theorem yk_565 : ychk yKD (yct yCT0 yD564) xMT xFT yEX xm242 yD_565.2.1 yD_565.2.2.1 400 = true := by decide +kernel
-- IceBoatsModel.courses
def yD_566 : YD := (241, ([(1, 30, 0), (0, -2147483648, 2147483647), (0, -2147483648, 2147483647), (0, -2147483648, 2147483647)], [], false, [(some (.inl (0, -2147483648, 2147483647)), [])]), [(104, [(0, 1, (1, 30, 0)), (1, 1, (0, 0, 63)), (2, 1, (0, 0, 5)), (3, 1, (0, 0, 5)), (4, 1, (0, 1, 10)), (5, 1, (0, 0, 1)), (6, 2, (0, 0, 20))], [(0, 7, (1, 32, 0)), (0, 12, (1, 37, 0))], [], (4294967377, [(6, -4)])), (184, [(0, 1, (1, 30, 0)), (1, 1, (0, 0, 63)), (2, 1, (0, 0, 5)), (3, 1, (0, 0, 5)), (4, 1, (0, 1, 10)), (5, 1, (0, 1, 1)), (6, 1, (0, -2147483648, 2147483647)), (7, 1, (0, 0, 2147483647)), (8, 1, (0, 0, 2147483647))], [(0, 7, (1, 32, 0)), (0, 12, (1, 37, 0))], [], (4294967295, [(8, -2)]))], 400)
def yD566 : List YD := yD_566 :: yD565
theorem yk_566 : ychk yKD (yct yCT0 yD565) xMT xFT yEX xm241 yD_566.2.1 yD_566.2.2.1 400 = true := by decide +kernel
-- IceBoatsModel.asked
def yD_567 : YD := (243, ([(1, 30, 0)], [(0, 2)], true, [(some (.inr (0, [(1, 1)])), [])]), [], 400)
def yD567 : List YD := yD_567 :: yD566
theorem yk_567 : ychk yKD (yct yCT0 yD566) xMT xFT yEX xm243 yD_567.2.1 yD_567.2.2.1 400 = true := by decide +kernel
-- IceBoatsModel.set
def yD_568 : YD := (244, ([(1, 30, 0)], [], true, [(some (.inl (2, 0, 0)), [])]), [], 400)
def yD568 : List YD := yD_568 :: yD567
theorem yk_568 : ychk yKD (yct yCT0 yD567) xMT xFT yEX xm244 yD_568.2.1 yD_568.2.2.1 400 = true := by decide +kernel
-- IceBoatsModel.upper
def yD_569 : YD := (245, ([(1, 30, 0)], [], true, [(some (.inl (2, 0, 0)), [])]), [], 400)
def yD569 : List YD := yD_569 :: yD568
theorem yk_569 : ychk yKD (yct yCT0 yD568) xMT xFT yEX xm245 yD_569.2.1 yD_569.2.2.1 400 = true := by decide +kernel
-- IceBoatsModel.lower
def yD_570 : YD := (246, ([(1, 30, 0)], [], true, [(some (.inl (2, 0, 0)), [])]), [], 400)
def yD570 : List YD := yD_570 :: yD569
theorem yk_570 : ychk yKD (yct yCT0 yD569) xMT xFT yEX xm246 yD_570.2.1 yD_570.2.2.1 400 = true := by decide +kernel
-- IceBoatsModel.counts
def yD_571 : YD := (248, ([(1, 30, 0), (0, -2147483648, 2147483647)], [], true, [(some (.inl (0, -2147483648, 2147483647)), [])]), [(130, [(0, 1, (1, 30, 0)), (1, 1, (0, -2147483648, 2147483647)), (2, 1, (0, -2147483648, 2147483647)), (3, 1, (0, 0, 6))], [], [], (13, [(3, -2)])), (65, [(0, 1, (1, 30, 0)), (1, 1, (0, 6, 6)), (2, 1, (0, -2147483648, 2147483647)), (3, 1, (0, 0, 6))], [], [], (37, [(3, -2)])), (98, [(0, 1, (1, 30, 0)), (1, 1, (0, 7, 7)), (2, 1, (0, -2147483648, 2147483647)), (3, 1, (0, 0, 4))], [], [], (23, [(3, -2)]))], 400)
def yD571 : List YD := yD_571 :: yD570
theorem yk_571 : ychk yKD (yct yCT0 yD570) xMT xFT yEX xm248 yD_571.2.1 yD_571.2.2.1 400 = true := by decide +kernel
-- IceBoatsModel.count
def yD_572 : YD := (247, ([(1, 30, 0), (0, -2147483648, 2147483647)], [], true, [(some (.inr (-1, [])), [(-1, [(1, -1)])]), (some (.inr (-1, [])), [(-8, [(1, 1)])]), (some (.inl (0, -2147483648, 2147483647)), [(0, [(1, 1)]), (7, [(1, -1)])])]), [], 400)
def yD572 : List YD := yD_572 :: yD571
theorem yk_572 : ychk yKD (yct yCT0 yD571) xMT xFT yEX xm247 yD_572.2.1 yD_572.2.2.1 400 = true := by decide +kernel
-- IceBoatsModel.finding
def yD_573 : YD := (249, ([(1, 30, 0)], [(0, 0)], true, [(some (.inr (0, [(1, 1)])), [])]), [], 400)
def yD573 : List YD := yD_573 :: yD572
theorem yk_573 : ychk yKD (yct yCT0 yD572) xMT xFT yEX xm249 yD_573.2.1 yD_573.2.2.1 400 = true := by decide +kernel
-- IceBoatsModel.findings
def yD_574 : YD := (250, ([(1, 30, 0), (0, -2147483648, 2147483647)], [], true, [(some (.inr (-1, [])), [(0, [(1, -1)])]), (some (.inr (-1, [])), [(-6, [(1, 1)])]), (some (.inl (0, -2147483648, 2147483647)), [(-1, [(1, 1)]), (5, [(1, -1)])])]), [], 400)
def yD574 : List YD := yD_574 :: yD573
theorem yk_574 : ychk yKD (yct yCT0 yD573) xMT xFT yEX xm250 yD_574.2.1 yD_574.2.2.1 400 = true := by decide +kernel
-- IceBoatsModel.mix
def yD_575 : YD := (252, ([(1, 30, 0), (2, 0, 0)], [], false, [(none, [])]), [], 400)
def yD575 : List YD := yD_575 :: yD574
theorem yk_575 : ychk yKD (yct yCT0 yD574) xMT xFT yEX xm252 yD_575.2.1 yD_575.2.2.1 400 = true := by decide +kernel
-- IceBoatsModel.mixBoats
def yD_576 : YD := (253, ([(1, 30, 0)], [], false, [(none, [])]), [(10, [(0, 1, (1, 30, 0)), (1, 1, (0, 0, 5)), (2, 1, (0, 0, 6))], [], [], (179, [(1, -26), (2, -2)])), (2, [(0, 1, (1, 30, 0)), (1, 1, (0, 0, 6))], [], [], (181, [(1, -26)])), (44, [(0, 1, (1, 30, 0)), (1, 1, (0, 0, 5)), (2, 1, (0, 0, 4))], [], [], (165, [(1, -26), (2, -2)]))], 400)
def yD576 : List YD := yD_576 :: yD575
theorem yk_576 : ychk yKD (yct yCT0 yD575) xMT xFT yEX xm253 yD_576.2.1 yD_576.2.2.1 400 = true := by decide +kernel
-- IceBoatsModel.mixWords
def yD_577 : YD := (254, ([(1, 30, 0)], [], false, [(none, [])]), [(12, [(0, 1, (1, 30, 0)), (1, 1, (0, 0, 39)), (2, 1, (0, 0, 4))], [], [], (1555, [(1, -26), (2, -2)])), (2, [(0, 1, (1, 30, 0)), (1, 1, (0, 0, 40))], [], [], (1557, [(1, -26)])), (36, [(0, 1, (1, 30, 0)), (1, 1, (0, 0, 39)), (2, 1, (0, 0, 6))], [], [], (1545, [(1, -26), (2, -2)])), (72, [(0, 1, (1, 30, 0)), (1, 1, (0, 0, 40))], [], [], (491, [(1, -12)])), (82, [(0, 1, (1, 30, 0)), (1, 1, (0, 0, 39)), (2, 1, (0, 0, 4))], [], [], (489, [(1, -12), (2, -2)]))], 400)
def yD577 : List YD := yD_577 :: yD576
theorem yk_577 : ychk yKD (yct yCT0 yD576) xMT xFT yEX xm254 yD_577.2.1 yD_577.2.2.1 400 = true := by decide +kernel
-- IceBoatsModel.digest
def yD_578 : YD := (251, ([(1, 30, 0)], [], false, [(some (.inl (2, 0, 0)), [])]), [(122, [(0, 1, (1, 30, 0)), (1, 1, (0, 0, 5)), (2, 1, (0, 0, 40))], [], [], (1005, [(1, -84), (2, -2)])), (157, [(0, 1, (1, 30, 0)), (1, 1, (0, 0, 4))], [], [], (419, [(1, -84)])), (190, [(0, 1, (1, 30, 0)), (1, 1, (0, 0, 3)), (2, 1, (0, 0, 40))], [], [], (417, [(1, -84), (2, -2)])), (33, [(0, 1, (1, 30, 0)), (1, 1, (0, 0, 64))], [], [], (1917, [(1, -14)])), (41, [(0, 1, (1, 30, 0)), (1, 1, (0, 0, 63)), (2, 1, (0, 0, 5))], [], [], (1915, [(1, -14), (2, -2)])), (88, [(0, 1, (1, 30, 0)), (1, 1, (0, 0, 6))], [], [], (1007, [(1, -84)])), (9, [(0, 1, (1, 30, 0)), (1, 1, (0, 0, 8))], [], [], (1935, [(1, -2)]))], 400)
def yD578 : List YD := yD_578 :: yD577
theorem yk_578 : ychk yKD (yct yCT0 yD577) xMT xFT yEX xm251 yD_578.2.1 yD_578.2.2.1 400 = true := by decide +kernel
