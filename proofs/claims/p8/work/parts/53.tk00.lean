/-! ===== contracts: checks, from 1 on ===== -/
def yD0 : List YD := []
theorem yc_0 : ychks yKD yB xMT xFT xSTX yD0 = true := rfl
-- IceBoats.rowAt
def yD1 : List YD := yD_1 :: yD0
theorem yk_1 : ychk yKD (yct yB yD0) xMT xFT xSTX xm9 yD_1.2.1 yD_1.2.2.1 6000 = true := by decide +kernel
theorem yc_1 : ychks yKD yB xMT xFT xSTX yD1 = true := ychks_cons (d := yD_1) (L := yD0) (M := xm9) rfl yk_1 yc_0
-- IceBoats.found
def yD2 : List YD := yD_2 :: yD1
theorem yk_2 : ychk yKD (yct yB yD1) xMT xFT xSTX xm10 yD_2.2.1 yD_2.2.2.1 6000 = true := by decide +kernel
theorem yc_2 : ychks yKD yB xMT xFT xSTX yD2 = true := ychks_cons (d := yD_2) (L := yD1) (M := xm10) rfl yk_2 yc_1
-- IceBoats$Row.beAnew
def yD3 : List YD := yD_3 :: yD2
theorem yk_3 : ychk yKD (yct yB yD2) xMT xFT xSTX xm11 yD_3.2.1 yD_3.2.2.1 6000 = true := by decide +kernel
theorem yc_3 : ychks yKD yB xMT xFT xSTX yD3 = true := ychks_cons (d := yD_3) (L := yD2) (M := xm11) rfl yk_3 yc_2
-- IceBoats.row
def yD4 : List YD := yD_4 :: yD3
theorem yk_4 : ychk yKD (yct yB yD3) xMT xFT xSTX xm8 yD_4.2.1 yD_4.2.2.1 6000 = true := by decide +kernel
theorem yc_4 : ychks yKD yB xMT xFT xSTX yD4 = true := ychks_cons (d := yD_4) (L := yD3) (M := xm8) rfl yk_4 yc_3
-- IceBoats$Row.isMissing
def yD5 : List YD := yD_5 :: yD4
theorem yk_5 : ychk yKD (yct yB yD4) xMT xFT xSTX xm13 yD_5.2.1 yD_5.2.2.1 6000 = true := by decide +kernel
theorem yc_5 : ychks yKD yB xMT xFT xSTX yD5 = true := ychks_cons (d := yD_5) (L := yD4) (M := xm13) rfl yk_5 yc_4
-- IceBoats$Row.holds
def yD6 : List YD := yD_6 :: yD5
theorem yk_6 : ychk yKD (yct yB yD5) xMT xFT xSTX xm14 yD_6.2.1 yD_6.2.2.1 6000 = true := by decide +kernel
theorem yc_6 : ychks yKD yB xMT xFT xSTX yD6 = true := ychks_cons (d := yD_6) (L := yD5) (M := xm14) rfl yk_6 yc_5
-- IceBoats.tellAsked
def yD7 : List YD := yD_7 :: yD6
theorem yk_7 : ychk yKD (yct yB yD6) xMT xFT xSTX xm15 yD_7.2.1 yD_7.2.2.1 6000 = true := by decide +kernel
theorem yc_7 : ychks yKD yB xMT xFT xSTX yD7 = true := ychks_cons (d := yD_7) (L := yD6) (M := xm15) rfl yk_7 yc_6
-- IceBoats.lay
def yD8 : List YD := yD_8 :: yD7
theorem yk_8 : ychk yKD (yct yB yD7) xMT xFT xSTX xm12 yD_8.2.1 yD_8.2.2.1 6000 = true := by decide +kernel
theorem yc_8 : ychks yKD yB xMT xFT xSTX yD8 = true := ychks_cons (d := yD_8) (L := yD7) (M := xm12) rfl yk_8 yc_7
-- IceBoats.tear
def yD9 : List YD := yD_9 :: yD8
theorem yk_9 : ychk yKD (yct yB yD8) xMT xFT xSTX xm16 yD_9.2.1 yD_9.2.2.1 6000 = true := by decide +kernel
theorem yc_9 : ychks yKD yB xMT xFT xSTX yD9 = true := ychks_cons (d := yD_9) (L := yD8) (M := xm16) rfl yk_9 yc_8
-- IceBoats.copy
def yD10 : List YD := yD_10 :: yD9
theorem yk_10 : ychk yKD (yct yB yD9) xMT xFT xSTX xm17 yD_10.2.1 yD_10.2.2.1 6000 = true := by decide +kernel
theorem yc_10 : ychks yKD yB xMT xFT xSTX yD10 = true := ychks_cons (d := yD_10) (L := yD9) (M := xm17) rfl yk_10 yc_9
-- IceBoats.mean
def yD11 : List YD := yD_11 :: yD10
theorem yk_11 : ychk yKD (yct yB yD10) xMT xFT xSTX xm18 yD_11.2.1 yD_11.2.2.1 6000 = true := by decide +kernel
theorem yc_11 : ychks yKD yB xMT xFT xSTX yD11 = true := ychks_cons (d := yD_11) (L := yD10) (M := xm18) rfl yk_11 yc_10
-- IceBoats.textAt
def yD12 : List YD := yD_12 :: yD11
theorem yk_12 : ychk yKD (yct yB yD11) xMT xFT xSTX xm20 yD_12.2.1 yD_12.2.2.1 6000 = true := by decide +kernel
theorem yc_12 : ychks yKD yB xMT xFT xSTX yD12 = true := ychks_cons (d := yD_12) (L := yD11) (M := xm20) rfl yk_12 yc_11
-- IceBoats$Row.beAnew
def yD13 : List YD := yD_13 :: yD12
theorem yk_13 : ychk yKD (yct yB yD12) xMT xFT xSTX xm11 yD_13.2.1 yD_13.2.2.1 6000 = true := by decide +kernel
theorem yc_13 : ychks yKD yB xMT xFT xSTX yD13 = true := ychks_cons (d := yD_13) (L := yD12) (M := xm11) rfl yk_13 yc_12
-- IceBoats.text
def yD14 : List YD := yD_14 :: yD13
theorem yk_14 : ychk yKD (yct yB yD13) xMT xFT xSTX xm19 yD_14.2.1 yD_14.2.2.1 6000 = true := by decide +kernel
theorem yc_14 : ychks yKD yB xMT xFT xSTX yD14 = true := ychks_cons (d := yD_14) (L := yD13) (M := xm19) rfl yk_14 yc_13
-- IceBoats.put
def yD15 : List YD := yD_15 :: yD14
theorem yk_15 : ychk yKD (yct yB yD14) xMT xFT xSTX xm21 yD_15.2.1 yD_15.2.2.1 6000 = true := by decide +kernel
theorem yc_15 : ychks yKD yB xMT xFT xSTX yD15 = true := ychks_cons (d := yD_15) (L := yD14) (M := xm21) rfl yk_15 yc_14
-- IceBoats.isCell
def yD16 : List YD := yD_16 :: yD15
theorem yk_16 : ychk yKD (yct yB yD15) xMT xFT xSTX xm23 yD_16.2.1 yD_16.2.2.1 6000 = true := by decide +kernel
theorem yc_16 : ychks yKD yB xMT xFT xSTX yD16 = true := ychks_cons (d := yD_16) (L := yD15) (M := xm23) rfl yk_16 yc_15
-- IceBoats.boatLiesIn
def yD17 : List YD := yD_17 :: yD16
theorem yk_17 : ychk yKD (yct yB yD16) xMT xFT xSTX xm24 yD_17.2.1 yD_17.2.2.1 6000 = true := by decide +kernel
theorem yc_17 : ychks yKD yB xMT xFT xSTX yD17 = true := ychks_cons (d := yD_17) (L := yD16) (M := xm24) rfl yk_17 yc_16
-- IceBoats.hasBit
def yD18 : List YD := yD_18 :: yD17
theorem yk_18 : ychk yKD (yct yB yD17) xMT xFT xSTX xm26 yD_18.2.1 yD_18.2.2.1 6000 = true := by decide +kernel
theorem yc_18 : ychks yKD yB xMT xFT xSTX yD18 = true := ychks_cons (d := yD_18) (L := yD17) (M := xm26) rfl yk_18 yc_17
-- IceBoats$Sea.isRock
def yD19 : List YD := yD_19 :: yD18
theorem yk_19 : ychk yKD (yct yB yD18) xMT xFT xSTX xm25 yD_19.2.1 yD_19.2.2.1 6000 = true := by decide +kernel
theorem yc_19 : ychks yKD yB xMT xFT xSTX yD19 = true := ychks_cons (d := yD_19) (L := yD18) (M := xm25) rfl yk_19 yc_18
-- IceBoats$Sea.becomeRock
def yD20 : List YD := yD_20 :: yD19
theorem yk_20 : ychk yKD (yct yB yD19) xMT xFT xSTX xm27 yD_20.2.1 yD_20.2.2.1 6000 = true := by decide +kernel
theorem yc_20 : ychks yKD yB xMT xFT xSTX yD20 = true := ychks_cons (d := yD_20) (L := yD19) (M := xm27) rfl yk_20 yc_19
-- IceBoats.rock
def yD21 : List YD := yD_21 :: yD20
theorem yk_21 : ychk yKD (yct yB yD20) xMT xFT xSTX xm22 yD_21.2.1 yD_21.2.2.1 6000 = true := by decide +kernel
theorem yc_21 : ychks yKD yB xMT xFT xSTX yD21 = true := ychks_cons (d := yD_21) (L := yD20) (M := xm22) rfl yk_21 yc_20
-- IceBoats.isWay
def yD22 : List YD := yD_22 :: yD21
theorem yk_22 : ychk yKD (yct yB yD21) xMT xFT xSTX xm29 yD_22.2.1 yD_22.2.2.1 6000 = true := by decide +kernel
theorem yc_22 : ychks yKD yB xMT xFT xSTX yD22 = true := ychks_cons (d := yD_22) (L := yD21) (M := xm29) rfl yk_22 yc_21
-- IceBoats.isIce
def yD23 : List YD := yD_23 :: yD22
theorem yk_23 : ychk yKD (yct yB yD22) xMT xFT xSTX xm30 yD_23.2.1 yD_23.2.2.1 6000 = true := by decide +kernel
theorem yc_23 : ychks yKD yB xMT xFT xSTX yD23 = true := ychks_cons (d := yD_23) (L := yD22) (M := xm30) rfl yk_23 yc_22
-- IceBoats$Sea.becomeWarm
def yD24 : List YD := yD_24 :: yD23
theorem yk_24 : ychk yKD (yct yB yD23) xMT xFT xSTX xm31 yD_24.2.1 yD_24.2.2.1 6000 = true := by decide +kernel
theorem yc_24 : ychks yKD yB xMT xFT xSTX yD24 = true := ychks_cons (d := yD_24) (L := yD23) (M := xm31) rfl yk_24 yc_23
-- IceBoats.cell
def yD25 : List YD := yD_25 :: yD24
theorem yk_25 : ychk yKD (yct yB yD24) xMT xFT xSTX xm28 yD_25.2.1 yD_25.2.2.1 6000 = true := by decide +kernel
theorem yc_25 : ychks yKD yB xMT xFT xSTX yD25 = true := ychks_cons (d := yD_25) (L := yD24) (M := xm28) rfl yk_25 yc_24
-- IceBoats$Sea.tellOf
def yD26 : List YD := yD_26 :: yD25
theorem yk_26 : ychk yKD (yct yB yD25) xMT xFT xSTX xm33 yD_26.2.1 yD_26.2.2.1 6000 = true := by decide +kernel
theorem yc_26 : ychks yKD yB xMT xFT xSTX yD26 = true := ychks_cons (d := yD_26) (L := yD25) (M := xm33) rfl yk_26 yc_25
-- IceBoats.sea
def yD27 : List YD := yD_27 :: yD26
theorem yk_27 : ychk yKD (yct yB yD26) xMT xFT xSTX xm32 yD_27.2.1 yD_27.2.2.1 6000 = true := by decide +kernel
theorem yc_27 : ychks yKD yB xMT xFT xSTX yD27 = true := ychks_cons (d := yD_27) (L := yD26) (M := xm32) rfl yk_27 yc_26
-- IceBoats.chart
def yD28 : List YD := yD_28 :: yD27
theorem yk_28 : ychk yKD (yct yB yD27) xMT xFT xSTX xm34 yD_28.2.1 yD_28.2.2.1 6000 = true := by decide +kernel
theorem yc_28 : ychks yKD yB xMT xFT xSTX yD28 = true := ychks_cons (d := yD_28) (L := yD27) (M := xm34) rfl yk_28 yc_27
-- IceBoats.hole
def yD29 : List YD := yD_29 :: yD28
theorem yk_29 : ychk yKD (yct yB yD28) xMT xFT xSTX xm35 yD_29.2.1 yD_29.2.2.1 6000 = true := by decide +kernel
theorem yc_29 : ychks yKD yB xMT xFT xSTX yD29 = true := ychks_cons (d := yD_29) (L := yD28) (M := xm35) rfl yk_29 yc_28
-- IceBoats.seed
def yD30 : List YD := yD_30 :: yD29
theorem yk_30 : ychk yKD (yct yB yD29) xMT xFT xSTX xm36 yD_30.2.1 yD_30.2.2.1 6000 = true := by decide +kernel
theorem yc_30 : ychks yKD yB xMT xFT xSTX yD30 = true := ychks_cons (d := yD_30) (L := yD29) (M := xm36) rfl yk_30 yc_29
-- IceBoats.isBoat
def yD31 : List YD := yD_31 :: yD30
theorem yk_31 : ychk yKD (yct yB yD30) xMT xFT xSTX xm39 yD_31.2.1 yD_31.2.2.1 6000 = true := by decide +kernel
theorem yc_31 : ychks yKD yB xMT xFT xSTX yD31 = true := ychks_cons (d := yD_31) (L := yD30) (M := xm39) rfl yk_31 yc_30
-- IceBoats.boatAt
def yD32 : List YD := yD_32 :: yD31
theorem yk_32 : ychk yKD (yct yB yD31) xMT xFT xSTX xm38 yD_32.2.1 yD_32.2.2.1 6000 = true := by decide +kernel
theorem yc_32 : ychks yKD yB xMT xFT xSTX yD32 = true := ychks_cons (d := yD_32) (L := yD31) (M := xm38) rfl yk_32 yc_31
-- IceBoats$Boat.letDown
def yD33 : List YD := yD_33 :: yD32
theorem yk_33 : ychk yKD (yct yB yD32) xMT xFT xSTX xm40 yD_33.2.1 yD_33.2.2.1 6000 = true := by decide +kernel
theorem yc_33 : ychks yKD yB xMT xFT xSTX yD33 = true := ychks_cons (d := yD_33) (L := yD32) (M := xm40) rfl yk_33 yc_32
-- IceBoats.boat
def yD34 : List YD := yD_34 :: yD33
theorem yk_34 : ychk yKD (yct yB yD33) xMT xFT xSTX xm37 yD_34.2.1 yD_34.2.2.1 6000 = true := by decide +kernel
theorem yc_34 : ychks yKD yB xMT xFT xSTX yD34 = true := ychks_cons (d := yD_34) (L := yD33) (M := xm37) rfl yk_34 yc_33
-- IceBoats.looksHeldBy
def yD35 : List YD := yD_35 :: yD34
theorem yk_35 : ychk yKD (yct yB yD34) xMT xFT xSTX xm44 yD_35.2.1 yD_35.2.2.1 6000 = true := by decide +kernel
theorem yc_35 : ychks yKD yB xMT xFT xSTX yD35 = true := ychks_cons (d := yD_35) (L := yD34) (M := xm44) rfl yk_35 yc_34
-- java/lang/Long.bitCount
def yD36 : List YD := yD_36 :: yD35
theorem yk_36 : ychk yKD (yct yB yD35) xMT xFT xSTX xm43 yD_36.2.1 yD_36.2.2.1 6000 = true := by decide +kernel
theorem yc_36 : ychks yKD yB xMT xFT xSTX yD36 = true := ychks_cons (d := yD_36) (L := yD35) (M := xm43) rfl yk_36 yc_35
-- IceBoats.tellOfBoat
def yD37 : List YD := yD_37 :: yD36
theorem yk_37 : ychk yKD (yct yB yD36) xMT xFT xSTX xm42 yD_37.2.1 yD_37.2.2.1 6000 = true := by decide +kernel
theorem yc_37 : ychks yKD yB xMT xFT xSTX yD37 = true := ychks_cons (d := yD_37) (L := yD36) (M := xm42) rfl yk_37 yc_36
-- IceBoats.told
def yD38 : List YD := yD_38 :: yD37
theorem yk_38 : ychk yKD (yct yB yD37) xMT xFT xSTX xm41 yD_38.2.1 yD_38.2.2.1 6000 = true := by decide +kernel
theorem yc_38 : ychks yKD yB xMT xFT xSTX yD38 = true := ychks_cons (d := yD_38) (L := yD37) (M := xm41) rfl yk_38 yc_37
-- IceBoats.looksOnlyHeldBy
def yD39 : List YD := yD_39 :: yD38
theorem yk_39 : ychk yKD (yct yB yD38) xMT xFT xSTX xm46 yD_39.2.1 yD_39.2.2.1 6000 = true := by decide +kernel
theorem yc_39 : ychks yKD yB xMT xFT xSTX yD39 = true := ychks_cons (d := yD_39) (L := yD38) (M := xm46) rfl yk_39 yc_38
-- IceBoats.mark
def yD40 : List YD := yD_40 :: yD39
theorem yk_40 : ychk yKD (yct yB yD39) xMT xFT xSTX xm45 yD_40.2.1 yD_40.2.2.1 6000 = true := by decide +kernel
theorem yc_40 : ychks yKD yB xMT xFT xSTX yD40 = true := ychks_cons (d := yD_40) (L := yD39) (M := xm45) rfl yk_40 yc_39
-- IceBoats.tellSet
def yD41 : List YD := yD_41 :: yD40
theorem yk_41 : ychk yKD (yct yB yD40) xMT xFT xSTX xm48 yD_41.2.1 yD_41.2.2.1 6000 = true := by decide +kernel
theorem yc_41 : ychks yKD yB xMT xFT xSTX yD41 = true := ychks_cons (d := yD_41) (L := yD40) (M := xm48) rfl yk_41 yc_40
-- IceBoats.could
def yD42 : List YD := yD_42 :: yD41
theorem yk_42 : ychk yKD (yct yB yD41) xMT xFT xSTX xm47 yD_42.2.1 yD_42.2.2.1 6000 = true := by decide +kernel
theorem yc_42 : ychks yKD yB xMT xFT xSTX yD42 = true := ychks_cons (d := yD_42) (L := yD41) (M := xm47) rfl yk_42 yc_41
-- IceBoats$Boat.isAble
def yD43 : List YD := yD_43 :: yD42
theorem yk_43 : ychk yKD (yct yB yD42) xMT xFT xSTX xm50 yD_43.2.1 yD_43.2.2.1 6000 = true := by decide +kernel
theorem yc_43 : ychks yKD yB xMT xFT xSTX yD43 = true := ychks_cons (d := yD_43) (L := yD42) (M := xm50) rfl yk_43 yc_42
-- IceBoats.go
def yD44 : List YD := yD_44 :: yD43
theorem yk_44 : ychk yKD (yct yB yD43) xMT xFT xSTX xm49 yD_44.2.1 yD_44.2.2.1 6000 = true := by decide +kernel
theorem yc_44 : ychks yKD yB xMT xFT xSTX yD44 = true := ychks_cons (d := yD_44) (L := yD43) (M := xm49) rfl yk_44 yc_43
-- IceBoats$Sea.leadsTo
def yD45 : List YD := yD_45 :: yD44
theorem yk_45 : ychk yKD (yct yB yD44) xMT xFT xSTX xm53 yD_45.2.1 yD_45.2.2.1 6000 = true := by decide +kernel
theorem yc_45 : ychks yKD yB xMT xFT xSTX yD45 = true := ychks_cons (d := yD_45) (L := yD44) (M := xm53) rfl yk_45 yc_44
-- IceBoats.lotCarries
def yD46 : List YD := yD_46 :: yD45
theorem yk_46 : ychk yKD (yct yB yD45) xMT xFT xSTX xm54 yD_46.2.1 yD_46.2.2.1 6000 = true := by decide +kernel
theorem yc_46 : ychks yKD yB xMT xFT xSTX yD46 = true := ychks_cons (d := yD_46) (L := yD45) (M := xm54) rfl yk_46 yc_45
-- IceBoats$Sea.carriedFrom
def yD47 : List YD := yD_47 :: yD46
theorem yk_47 : ychk yKD (yct yB yD46) xMT xFT xSTX xm55 yD_47.2.1 yD_47.2.2.1 6000 = true := by decide +kernel
theorem yc_47 : ychks yKD yB xMT xFT xSTX yD47 = true := ychks_cons (d := yD_47) (L := yD46) (M := xm55) rfl yk_47 yc_46
-- IceBoats$Sea.couldBehind
def yD48 : List YD := yD_48 :: yD47
theorem yk_48 : ychk yKD (yct yB yD47) xMT xFT xSTX xm56 yD_48.2.1 yD_48.2.2.1 6000 = true := by decide +kernel
theorem yc_48 : ychks yKD yB xMT xFT xSTX yD48 = true := ychks_cons (d := yD_48) (L := yD47) (M := xm56) rfl yk_48 yc_47
-- IceBoats$Sea.couldBehind
def yD49 : List YD := yD_49 :: yD48
theorem yk_49 : ychk yKD (yct yB yD48) xMT xFT xSTX xm56 yD_49.2.1 yD_49.2.2.1 6000 = true := by decide +kernel
theorem yc_49 : ychks yKD yB xMT xFT xSTX yD49 = true := ychks_cons (d := yD_49) (L := yD48) (M := xm56) rfl yk_49 yc_48
-- IceBoats.moveBoat
def yD50 : List YD := yD_50 :: yD49
theorem yk_50 : ychk yKD (yct yB yD49) xMT xFT xSTX xm52 yD_50.2.1 yD_50.2.2.1 6000 = true := by decide +kernel
theorem yc_50 : ychks yKD yB xMT xFT xSTX yD50 = true := ychks_cons (d := yD_50) (L := yD49) (M := xm52) rfl yk_50 yc_49
-- IceBoats$Word.comesAt
def yD51 : List YD := yD_51 :: yD50
theorem yk_51 : ychk yKD (yct yB yD50) xMT xFT xSTX xm58 yD_51.2.1 yD_51.2.2.1 6000 = true := by decide +kernel
theorem yc_51 : ychks yKD yB xMT xFT xSTX yD51 = true := ychks_cons (d := yD_51) (L := yD50) (M := xm58) rfl yk_51 yc_50
-- IceBoats.leastCell
def yD52 : List YD := yD_52 :: yD51
theorem yk_52 : ychk yKD (yct yB yD51) xMT xFT xSTX xm68 yD_52.2.1 yD_52.2.2.1 6000 = true := by decide +kernel
theorem yc_52 : ychks yKD yB xMT xFT xSTX yD52 = true := ychks_cons (d := yD_52) (L := yD51) (M := xm68) rfl yk_52 yc_51
-- IceBoats.stepsBetween
def yD53 : List YD := yD_53 :: yD52
theorem yk_53 : ychk yKD (yct yB yD52) xMT xFT xSTX xm70 yD_53.2.1 yD_53.2.2.1 6000 = true := by decide +kernel
theorem yc_53 : ychks yKD yB xMT xFT xSTX yD53 = true := ychks_cons (d := yD_53) (L := yD52) (M := xm70) rfl yk_53 yc_52
-- IceBoats$Sea.wayNearer
def yD54 : List YD := yD_54 :: yD53
theorem yk_54 : ychk yKD (yct yB yD53) xMT xFT xSTX xm69 yD_54.2.1 yD_54.2.2.1 6000 = true := by decide +kernel
theorem yc_54 : ychks yKD yB xMT xFT xSTX yD54 = true := ychks_cons (d := yD_54) (L := yD53) (M := xm69) rfl yk_54 yc_53
-- IceBoats.lookAt
def yD55 : List YD := yD_55 :: yD54
theorem yk_55 : ychk yKD (yct yB yD54) xMT xFT xSTX xm67 yD_55.2.1 yD_55.2.2.1 6000 = true := by decide +kernel
theorem yc_55 : ychks yKD yB xMT xFT xSTX yD55 = true := ychks_cons (d := yD_55) (L := yD54) (M := xm67) rfl yk_55 yc_54
-- IceBoats.holdLook
def yD56 : List YD := yD_56 :: yD55
theorem yk_56 : ychk yKD (yct yB yD55) xMT xFT xSTX xm66 yD_56.2.1 yD_56.2.2.1 6000 = true := by decide +kernel
theorem yc_56 : ychks yKD yB xMT xFT xSTX yD56 = true := ychks_cons (d := yD_56) (L := yD55) (M := xm66) rfl yk_56 yc_55
-- IceBoats$Wave.beginIn
def yD57 : List YD := yD_57 :: yD56
theorem yk_57 : ychk yKD (yct yB yD56) xMT xFT xSTX xm62 yD_57.2.1 yD_57.2.2.1 6000 = true := by decide +kernel
theorem yc_57 : ychks yKD yB xMT xFT xSTX yD57 = true := ychks_cons (d := yD_57) (L := yD56) (M := xm62) rfl yk_57 yc_56
-- IceBoats$Wave.besides
def yD58 : List YD := yD_58 :: yD57
theorem yk_58 : ychk yKD (yct yB yD57) xMT xFT xSTX xm64 yD_58.2.1 yD_58.2.2.1 6000 = true := by decide +kernel
theorem yc_58 : ychks yKD yB xMT xFT xSTX yD58 = true := ychks_cons (d := yD_58) (L := yD57) (M := xm64) rfl yk_58 yc_57
-- IceBoats$Wave.spread
def yD59 : List YD := yD_59 :: yD58
theorem yk_59 : ychk yKD (yct yB yD58) xMT xFT xSTX xm63 yD_59.2.1 yD_59.2.2.1 6000 = true := by decide +kernel
theorem yc_59 : ychks yKD yB xMT xFT xSTX yD59 = true := ychks_cons (d := yD_59) (L := yD58) (M := xm63) rfl yk_59 yc_58
-- IceBoats$Sea.cellsAtTime
def yD60 : List YD := yD_60 :: yD59
theorem yk_60 : ychk yKD (yct yB yD59) xMT xFT xSTX xm61 yD_60.2.1 yD_60.2.2.1 6000 = true := by decide +kernel
theorem yc_60 : ychks yKD yB xMT xFT xSTX yD60 = true := ychks_cons (d := yD_60) (L := yD59) (M := xm61) rfl yk_60 yc_59
-- IceBoats$Boat.keepCould
def yD61 : List YD := yD_61 :: yD60
theorem yk_61 : ychk yKD (yct yB yD60) xMT xFT xSTX xm65 yD_61.2.1 yD_61.2.2.1 6000 = true := by decide +kernel
theorem yc_61 : ychks yKD yB xMT xFT xSTX yD61 = true := ychks_cons (d := yD_61) (L := yD60) (M := xm65) rfl yk_61 yc_60
-- IceBoats.takeIn
def yD62 : List YD := yD_62 :: yD61
theorem yk_62 : ychk yKD (yct yB yD61) xMT xFT xSTX xm60 yD_62.2.1 yD_62.2.2.1 6000 = true := by decide +kernel
theorem yc_62 : ychks yKD yB xMT xFT xSTX yD62 = true := ychks_cons (d := yD_62) (L := yD61) (M := xm60) rfl yk_62 yc_61
-- IceBoats.loseMetWords
def yD63 : List YD := yD_63 :: yD62
theorem yk_63 : ychk yKD (yct yB yD62) xMT xFT xSTX xm59 yD_63.2.1 yD_63.2.2.1 6000 = true := by decide +kernel
theorem yc_63 : ychks yKD yB xMT xFT xSTX yD63 = true := ychks_cons (d := yD_63) (L := yD62) (M := xm59) rfl yk_63 yc_62
-- IceBoats.hearWhatComes
def yD64 : List YD := yD_64 :: yD63
theorem yk_64 : ychk yKD (yct yB yD63) xMT xFT xSTX xm57 yD_64.2.1 yD_64.2.2.1 6000 = true := by decide +kernel
theorem yc_64 : ychks yKD yB xMT xFT xSTX yD64 = true := ychks_cons (d := yD_64) (L := yD63) (M := xm57) rfl yk_64 yc_63
-- IceBoats$Boat.failIfDue
def yD65 : List YD := yD_65 :: yD64
theorem yk_65 : ychk yKD (yct yB yD64) xMT xFT xSTX xm71 yD_65.2.1 yD_65.2.2.1 6000 = true := by decide +kernel
theorem yc_65 : ychks yKD yB xMT xFT xSTX yD65 = true := ychks_cons (d := yD_65) (L := yD64) (M := xm71) rfl yk_65 yc_64
-- IceBoats.tick
def yD66 : List YD := yD_66 :: yD65
theorem yk_66 : ychk yKD (yct yB yD65) xMT xFT xSTX xm51 yD_66.2.1 yD_66.2.2.1 6000 = true := by decide +kernel
theorem yc_66 : ychks yKD yB xMT xFT xSTX yD66 = true := ychks_cons (d := yD_66) (L := yD65) (M := xm51) rfl yk_66 yc_65
-- IceBoats$Look.tellOf
def yD67 : List YD := yD_67 :: yD66
theorem yk_67 : ychk yKD (yct yB yD66) xMT xFT xSTX xm75 yD_67.2.1 yD_67.2.2.1 6000 = true := by decide +kernel
theorem yc_67 : ychks yKD yB xMT xFT xSTX yD67 = true := ychks_cons (d := yD_67) (L := yD66) (M := xm75) rfl yk_67 yc_66
-- IceBoats.looked
def yD68 : List YD := yD_68 :: yD67
theorem yk_68 : ychk yKD (yct yB yD67) xMT xFT xSTX xm74 yD_68.2.1 yD_68.2.2.1 6000 = true := by decide +kernel
theorem yc_68 : ychks yKD yB xMT xFT xSTX yD68 = true := ychks_cons (d := yD_68) (L := yD67) (M := xm74) rfl yk_68 yc_67
-- IceBoats$Sea.cellsChartedAs
def yD69 : List YD := yD_69 :: yD68
theorem yk_69 : ychk yKD (yct yB yD68) xMT xFT xSTX xm77 yD_69.2.1 yD_69.2.2.1 6000 = true := by decide +kernel
theorem yc_69 : ychks yKD yB xMT xFT xSTX yD69 = true := ychks_cons (d := yD_69) (L := yD68) (M := xm77) rfl yk_69 yc_68
-- IceBoats.match
def yD70 : List YD := yD_70 :: yD69
theorem yk_70 : ychk yKD (yct yB yD69) xMT xFT xSTX xm76 yD_70.2.1 yD_70.2.2.1 6000 = true := by decide +kernel
theorem yc_70 : ychks yKD yB xMT xFT xSTX yD70 = true := ychks_cons (d := yD_70) (L := yD69) (M := xm76) rfl yk_70 yc_69
-- IceBoats.home
def yD71 : List YD := yD_71 :: yD70
theorem yk_71 : ychk yKD (yct yB yD70) xMT xFT xSTX xm78 yD_71.2.1 yD_71.2.2.1 6000 = true := by decide +kernel
theorem yc_71 : ychks yKD yB xMT xFT xSTX yD71 = true := ychks_cons (d := yD_71) (L := yD70) (M := xm78) rfl yk_71 yc_70
-- IceBoats.isOpenCell
def yD72 : List YD := yD_72 :: yD71
theorem yk_72 : ychk yKD (yct yB yD71) xMT xFT xSTX xm80 yD_72.2.1 yD_72.2.2.1 6000 = true := by decide +kernel
theorem yc_72 : ychks yKD yB xMT xFT xSTX yD72 = true := ychks_cons (d := yD_72) (L := yD71) (M := xm80) rfl yk_72 yc_71
-- IceBoats$Sea.soundTime
def yD73 : List YD := yD_73 :: yD72
theorem yk_73 : ychk yKD (yct yB yD72) xMT xFT xSTX xm81 yD_73.2.1 yD_73.2.2.1 6000 = true := by decide +kernel
theorem yc_73 : ychks yKD yB xMT xFT xSTX yD73 = true := ychks_cons (d := yD_73) (L := yD72) (M := xm81) rfl yk_73 yc_72
-- IceBoats.time
def yD74 : List YD := yD_74 :: yD73
theorem yk_74 : ychk yKD (yct yB yD73) xMT xFT xSTX xm79 yD_74.2.1 yD_74.2.2.1 6000 = true := by decide +kernel
theorem yc_74 : ychks yKD yB xMT xFT xSTX yD74 = true := ychks_cons (d := yD_74) (L := yD73) (M := xm79) rfl yk_74 yc_73
-- IceBoats.wordAt
def yD75 : List YD := yD_75 :: yD74
theorem yk_75 : ychk yKD (yct yB yD74) xMT xFT xSTX xm88 yD_75.2.1 yD_75.2.2.1 6000 = true := by decide +kernel
theorem yc_75 : ychks yKD yB xMT xFT xSTX yD75 = true := ychks_cons (d := yD_75) (L := yD74) (M := xm88) rfl yk_75 yc_74
-- IceBoats$Word.tellOf
def yD76 : List YD := yD_76 :: yD75
theorem yk_76 : ychk yKD (yct yB yD75) xMT xFT xSTX xm89 yD_76.2.1 yD_76.2.2.1 6000 = true := by decide +kernel
theorem yc_76 : ychks yKD yB xMT xFT xSTX yD76 = true := ychks_cons (d := yD_76) (L := yD75) (M := xm89) rfl yk_76 yc_75
-- IceBoats.word
def yD77 : List YD := yD_77 :: yD76
theorem yk_77 : ychk yKD (yct yB yD76) xMT xFT xSTX xm87 yD_77.2.1 yD_77.2.2.1 6000 = true := by decide +kernel
theorem yc_77 : ychks yKD yB xMT xFT xSTX yD77 = true := ychks_cons (d := yD_77) (L := yD76) (M := xm87) rfl yk_77 yc_76
-- IceBoats$Word.hearers
def yD78 : List YD := yD_78 :: yD77
theorem yk_78 : ychk yKD (yct yB yD77) xMT xFT xSTX xm92 yD_78.2.1 yD_78.2.2.1 6000 = true := by decide +kernel
theorem yc_78 : ychks yKD yB xMT xFT xSTX yD78 = true := ychks_cons (d := yD_78) (L := yD77) (M := xm92) rfl yk_78 yc_77
-- IceBoats.iceOfLook
def yD79 : List YD := yD_79 :: yD78
theorem yk_79 : ychk yKD (yct yB yD78) xMT xFT xSTX xm91 yD_79.2.1 yD_79.2.2.1 6000 = true := by decide +kernel
theorem yc_79 : ychks yKD yB xMT xFT xSTX yD79 = true := ychks_cons (d := yD_79) (L := yD78) (M := xm91) rfl yk_79 yc_78
-- IceBoats.tells
def yD80 : List YD := yD_80 :: yD79
theorem yk_80 : ychk yKD (yct yB yD79) xMT xFT xSTX xm90 yD_80.2.1 yD_80.2.2.1 6000 = true := by decide +kernel
theorem yc_80 : ychks yKD yB xMT xFT xSTX yD80 = true := ychks_cons (d := yD_80) (L := yD79) (M := xm90) rfl yk_80 yc_79
-- IceBoats.heard
def yD81 : List YD := yD_81 :: yD80
theorem yk_81 : ychk yKD (yct yB yD80) xMT xFT xSTX xm93 yD_81.2.1 yD_81.2.2.1 6000 = true := by decide +kernel
theorem yc_81 : ychks yKD yB xMT xFT xSTX yD81 = true := ychks_cons (d := yD_81) (L := yD80) (M := xm93) rfl yk_81 yc_80
-- IceBoats.isBoatOrNone
def yD82 : List YD := yD_82 :: yD81
theorem yk_82 : ychk yKD (yct yB yD81) xMT xFT xSTX xm95 yD_82.2.1 yD_82.2.2.1 6000 = true := by decide +kernel
theorem yc_82 : ychks yKD yB xMT xFT xSTX yD82 = true := ychks_cons (d := yD_82) (L := yD81) (M := xm95) rfl yk_82 yc_81
-- IceBoats$Word.knownBy
def yD83 : List YD := yD_83 :: yD82
theorem yk_83 : ychk yKD (yct yB yD82) xMT xFT xSTX xm96 yD_83.2.1 yD_83.2.2.1 6000 = true := by decide +kernel
theorem yc_83 : ychks yKD yB xMT xFT xSTX yD83 = true := ychks_cons (d := yD_83) (L := yD82) (M := xm96) rfl yk_83 yc_82
-- IceBoats.firstHeardFrom
def yD84 : List YD := yD_84 :: yD83
theorem yk_84 : ychk yKD (yct yB yD83) xMT xFT xSTX xm98 yD_84.2.1 yD_84.2.2.1 6000 = true := by decide +kernel
theorem yc_84 : ychks yKD yB xMT xFT xSTX yD84 = true := ychks_cons (d := yD_84) (L := yD83) (M := xm98) rfl yk_84 yc_83
