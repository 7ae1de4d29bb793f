/-! ===== contracts: checks, one by one ===== -/
def yD0 : List YD := []
def yD1 : List YD := yD_1 :: yD0
theorem yk_1 : ychk yKD (yct yB yD0) xMT xFT yEX xm9 yD_1.2.1 yD_1.2.2.1 6000 = true := by decide +kernel -- IceBoats.rowAt
def yD2 : List YD := yD_2 :: yD1
theorem yk_2 : ychk yKD (yct yB yD1) xMT xFT yEX xm10 yD_2.2.1 yD_2.2.2.1 6000 = true := by decide +kernel -- IceBoats.found
def yD3 : List YD := yD_3 :: yD2
theorem yk_3 : ychk yKD (yct yB yD2) xMT xFT yEX xm11 yD_3.2.1 yD_3.2.2.1 6000 = true := by decide +kernel -- IceBoats$Row.beAnew
def yD4 : List YD := yD_4 :: yD3
theorem yk_4 : ychk yKD (yct yB yD3) xMT xFT yEX xm8 yD_4.2.1 yD_4.2.2.1 6000 = true := by decide +kernel -- IceBoats.row
def yD5 : List YD := yD_5 :: yD4
theorem yk_5 : ychk yKD (yct yB yD4) xMT xFT yEX xm13 yD_5.2.1 yD_5.2.2.1 6000 = true := by decide +kernel -- IceBoats$Row.isMissing
def yD6 : List YD := yD_6 :: yD5
theorem yk_6 : ychk yKD (yct yB yD5) xMT xFT yEX xm14 yD_6.2.1 yD_6.2.2.1 6000 = true := by decide +kernel -- IceBoats$Row.holds
def yD7 : List YD := yD_7 :: yD6
theorem yk_7 : ychk yKD (yct yB yD6) xMT xFT yEX xm15 yD_7.2.1 yD_7.2.2.1 6000 = true := by decide +kernel -- IceBoats.tellAsked
def yD8 : List YD := yD_8 :: yD7
theorem yk_8 : ychk yKD (yct yB yD7) xMT xFT yEX xm12 yD_8.2.1 yD_8.2.2.1 6000 = true := by decide +kernel -- IceBoats.lay
def yD9 : List YD := yD_9 :: yD8
theorem yk_9 : ychk yKD (yct yB yD8) xMT xFT yEX xm16 yD_9.2.1 yD_9.2.2.1 6000 = true := by decide +kernel -- IceBoats.tear
def yD10 : List YD := yD_10 :: yD9
theorem yk_10 : ychk yKD (yct yB yD9) xMT xFT yEX xm17 yD_10.2.1 yD_10.2.2.1 6000 = true := by decide +kernel -- IceBoats.copy
def yD11 : List YD := yD_11 :: yD10
theorem yk_11 : ychk yKD (yct yB yD10) xMT xFT yEX xm18 yD_11.2.1 yD_11.2.2.1 6000 = true := by decide +kernel -- IceBoats.mean
def yD12 : List YD := yD_12 :: yD11
theorem yk_12 : ychk yKD (yct yB yD11) xMT xFT yEX xm20 yD_12.2.1 yD_12.2.2.1 6000 = true := by decide +kernel -- IceBoats.textAt
def yD13 : List YD := yD_13 :: yD12
theorem yk_13 : ychk yKD (yct yB yD12) xMT xFT yEX xm11 yD_13.2.1 yD_13.2.2.1 6000 = true := by decide +kernel -- IceBoats$Row.beAnew
def yD14 : List YD := yD_14 :: yD13
theorem yk_14 : ychk yKD (yct yB yD13) xMT xFT yEX xm19 yD_14.2.1 yD_14.2.2.1 6000 = true := by decide +kernel -- IceBoats.text
def yD15 : List YD := yD_15 :: yD14
theorem yk_15 : ychk yKD (yct yB yD14) xMT xFT yEX xm21 yD_15.2.1 yD_15.2.2.1 6000 = true := by decide +kernel -- IceBoats.put
def yD16 : List YD := yD_16 :: yD15
theorem yk_16 : ychk yKD (yct yB yD15) xMT xFT yEX xm23 yD_16.2.1 yD_16.2.2.1 6000 = true := by decide +kernel -- IceBoats.isCell
def yD17 : List YD := yD_17 :: yD16
theorem yk_17 : ychk yKD (yct yB yD16) xMT xFT yEX xm24 yD_17.2.1 yD_17.2.2.1 6000 = true := by decide +kernel -- IceBoats.boatLiesIn
def yD18 : List YD := yD_18 :: yD17
theorem yk_18 : ychk yKD (yct yB yD17) xMT xFT yEX xm26 yD_18.2.1 yD_18.2.2.1 6000 = true := by decide +kernel -- IceBoats.hasBit
def yD19 : List YD := yD_19 :: yD18
theorem yk_19 : ychk yKD (yct yB yD18) xMT xFT yEX xm25 yD_19.2.1 yD_19.2.2.1 6000 = true := by decide +kernel -- IceBoats$Sea.isRock
def yD20 : List YD := yD_20 :: yD19
theorem yk_20 : ychk yKD (yct yB yD19) xMT xFT yEX xm27 yD_20.2.1 yD_20.2.2.1 6000 = true := by decide +kernel -- IceBoats$Sea.becomeRock
def yD21 : List YD := yD_21 :: yD20
theorem yk_21 : ychk yKD (yct yB yD20) xMT xFT yEX xm22 yD_21.2.1 yD_21.2.2.1 6000 = true := by decide +kernel -- IceBoats.rock
def yD22 : List YD := yD_22 :: yD21
theorem yk_22 : ychk yKD (yct yB yD21) xMT xFT yEX xm29 yD_22.2.1 yD_22.2.2.1 6000 = true := by decide +kernel -- IceBoats.isWay
def yD23 : List YD := yD_23 :: yD22
theorem yk_23 : ychk yKD (yct yB yD22) xMT xFT yEX xm30 yD_23.2.1 yD_23.2.2.1 6000 = true := by decide +kernel -- IceBoats.isIce
def yD24 : List YD := yD_24 :: yD23
theorem yk_24 : ychk yKD (yct yB yD23) xMT xFT yEX xm31 yD_24.2.1 yD_24.2.2.1 6000 = true := by decide +kernel -- IceBoats$Sea.becomeWarm
def yD25 : List YD := yD_25 :: yD24
theorem yk_25 : ychk yKD (yct yB yD24) xMT xFT yEX xm28 yD_25.2.1 yD_25.2.2.1 6000 = true := by decide +kernel -- IceBoats.cell
def yD26 : List YD := yD_26 :: yD25
theorem yk_26 : ychk yKD (yct yB yD25) xMT xFT yEX xm33 yD_26.2.1 yD_26.2.2.1 6000 = true := by decide +kernel -- IceBoats$Sea.tellOf
def yD27 : List YD := yD_27 :: yD26
theorem yk_27 : ychk yKD (yct yB yD26) xMT xFT yEX xm32 yD_27.2.1 yD_27.2.2.1 6000 = true := by decide +kernel -- IceBoats.sea
def yD28 : List YD := yD_28 :: yD27
theorem yk_28 : ychk yKD (yct yB yD27) xMT xFT yEX xm34 yD_28.2.1 yD_28.2.2.1 6000 = true := by decide +kernel -- IceBoats.chart
def yD29 : List YD := yD_29 :: yD28
theorem yk_29 : ychk yKD (yct yB yD28) xMT xFT yEX xm35 yD_29.2.1 yD_29.2.2.1 6000 = true := by decide +kernel -- IceBoats.hole
def yD30 : List YD := yD_30 :: yD29
theorem yk_30 : ychk yKD (yct yB yD29) xMT xFT yEX xm36 yD_30.2.1 yD_30.2.2.1 6000 = true := by decide +kernel -- IceBoats.seed
def yD31 : List YD := yD_31 :: yD30
theorem yk_31 : ychk yKD (yct yB yD30) xMT xFT yEX xm39 yD_31.2.1 yD_31.2.2.1 6000 = true := by decide +kernel -- IceBoats.isBoat
def yD32 : List YD := yD_32 :: yD31
theorem yk_32 : ychk yKD (yct yB yD31) xMT xFT yEX xm38 yD_32.2.1 yD_32.2.2.1 6000 = true := by decide +kernel -- IceBoats.boatAt
def yD33 : List YD := yD_33 :: yD32
theorem yk_33 : ychk yKD (yct yB yD32) xMT xFT yEX xm40 yD_33.2.1 yD_33.2.2.1 6000 = true := by decide +kernel -- IceBoats$Boat.letDown
def yD34 : List YD := yD_34 :: yD33
theorem yk_34 : ychk yKD (yct yB yD33) xMT xFT yEX xm37 yD_34.2.1 yD_34.2.2.1 6000 = true := by decide +kernel -- IceBoats.boat
def yD35 : List YD := yD_35 :: yD34
theorem yk_35 : ychk yKD (yct yB yD34) xMT xFT yEX xm44 yD_35.2.1 yD_35.2.2.1 6000 = true := by decide +kernel -- IceBoats.looksHeldBy
def yD36 : List YD := yD_36 :: yD35
theorem yk_36 : ychk yKD (yct yB yD35) xMT xFT yEX xm43 yD_36.2.1 yD_36.2.2.1 6000 = true := by decide +kernel -- java/lang/Long.bitCount
def yD37 : List YD := yD_37 :: yD36
theorem yk_37 : ychk yKD (yct yB yD36) xMT xFT yEX xm42 yD_37.2.1 yD_37.2.2.1 6000 = true := by decide +kernel -- IceBoats.tellOfBoat
def yD38 : List YD := yD_38 :: yD37
theorem yk_38 : ychk yKD (yct yB yD37) xMT xFT yEX xm41 yD_38.2.1 yD_38.2.2.1 6000 = true := by decide +kernel -- IceBoats.told
def yD39 : List YD := yD_39 :: yD38
theorem yk_39 : ychk yKD (yct yB yD38) xMT xFT yEX xm46 yD_39.2.1 yD_39.2.2.1 6000 = true := by decide +kernel -- IceBoats.looksOnlyHeldBy
def yD40 : List YD := yD_40 :: yD39
theorem yk_40 : ychk yKD (yct yB yD39) xMT xFT yEX xm45 yD_40.2.1 yD_40.2.2.1 6000 = true := by decide +kernel -- IceBoats.mark
def yD41 : List YD := yD_41 :: yD40
theorem yk_41 : ychk yKD (yct yB yD40) xMT xFT yEX xm48 yD_41.2.1 yD_41.2.2.1 6000 = true := by decide +kernel -- IceBoats.tellSet
def yD42 : List YD := yD_42 :: yD41
theorem yk_42 : ychk yKD (yct yB yD41) xMT xFT yEX xm47 yD_42.2.1 yD_42.2.2.1 6000 = true := by decide +kernel -- IceBoats.could
def yD43 : List YD := yD_43 :: yD42
theorem yk_43 : ychk yKD (yct yB yD42) xMT xFT yEX xm50 yD_43.2.1 yD_43.2.2.1 6000 = true := by decide +kernel -- IceBoats$Boat.isAble
def yD44 : List YD := yD_44 :: yD43
theorem yk_44 : ychk yKD (yct yB yD43) xMT xFT yEX xm49 yD_44.2.1 yD_44.2.2.1 6000 = true := by decide +kernel -- IceBoats.go
def yD45 : List YD := yD_45 :: yD44
theorem yk_45 : ychk yKD (yct yB yD44) xMT xFT yEX xm53 yD_45.2.1 yD_45.2.2.1 6000 = true := by decide +kernel -- IceBoats$Sea.leadsTo
def yD46 : List YD := yD_46 :: yD45
theorem yk_46 : ychk yKD (yct yB yD45) xMT xFT yEX xm54 yD_46.2.1 yD_46.2.2.1 6000 = true := by decide +kernel -- IceBoats.lotCarries
def yD47 : List YD := yD_47 :: yD46
theorem yk_47 : ychk yKD (yct yB yD46) xMT xFT yEX xm55 yD_47.2.1 yD_47.2.2.1 6000 = true := by decide +kernel -- IceBoats$Sea.carriedFrom
def yD48 : List YD := yD_48 :: yD47
theorem yk_48 : ychk yKD (yct yB yD47) xMT xFT yEX xm56 yD_48.2.1 yD_48.2.2.1 6000 = true := by decide +kernel -- IceBoats$Sea.couldBehind
def yD49 : List YD := yD_49 :: yD48
theorem yk_49 : ychk yKD (yct yB yD48) xMT xFT yEX xm56 yD_49.2.1 yD_49.2.2.1 6000 = true := by decide +kernel -- IceBoats$Sea.couldBehind
def yD50 : List YD := yD_50 :: yD49
theorem yk_50 : ychk yKD (yct yB yD49) xMT xFT yEX xm52 yD_50.2.1 yD_50.2.2.1 6000 = true := by decide +kernel -- IceBoats.moveBoat
def yD51 : List YD := yD_51 :: yD50
theorem yk_51 : ychk yKD (yct yB yD50) xMT xFT yEX xm58 yD_51.2.1 yD_51.2.2.1 6000 = true := by decide +kernel -- IceBoats$Word.comesAt
def yD52 : List YD := yD_52 :: yD51
theorem yk_52 : ychk yKD (yct yB yD51) xMT xFT yEX xm68 yD_52.2.1 yD_52.2.2.1 6000 = true := by decide +kernel -- IceBoats.leastCell
def yD53 : List YD := yD_53 :: yD52
theorem yk_53 : ychk yKD (yct yB yD52) xMT xFT yEX xm70 yD_53.2.1 yD_53.2.2.1 6000 = true := by decide +kernel -- IceBoats.stepsBetween
def yD54 : List YD := yD_54 :: yD53
theorem yk_54 : ychk yKD (yct yB yD53) xMT xFT yEX xm53 yD_54.2.1 yD_54.2.2.1 6000 = true := by decide +kernel -- IceBoats$Sea.leadsTo
def yD55 : List YD := yD_55 :: yD54
theorem yk_55 : ychk yKD (yct yB yD54) xMT xFT yEX xm69 yD_55.2.1 yD_55.2.2.1 6000 = true := by decide +kernel -- IceBoats$Sea.wayNearer
def yD56 : List YD := yD_56 :: yD55
theorem yk_56 : ychk yKD (yct yB yD55) xMT xFT yEX xm67 yD_56.2.1 yD_56.2.2.1 6000 = true := by decide +kernel -- IceBoats.lookAt
def yD57 : List YD := yD_57 :: yD56
theorem yk_57 : ychk yKD (yct yB yD56) xMT xFT yEX xm66 yD_57.2.1 yD_57.2.2.1 6000 = true := by decide +kernel -- IceBoats.holdLook
def yD58 : List YD := yD_58 :: yD57
theorem yk_58 : ychk yKD (yct yB yD57) xMT xFT yEX xm62 yD_58.2.1 yD_58.2.2.1 6000 = true := by decide +kernel -- IceBoats$Wave.beginIn
def yD59 : List YD := yD_59 :: yD58
theorem yk_59 : ychk yKD (yct yB yD58) xMT xFT yEX xm64 yD_59.2.1 yD_59.2.2.1 6000 = true := by decide +kernel -- IceBoats$Wave.besides
def yD60 : List YD := yD_60 :: yD59
theorem yk_60 : ychk yKD (yct yB yD59) xMT xFT yEX xm63 yD_60.2.1 yD_60.2.2.1 6000 = true := by decide +kernel -- IceBoats$Wave.spread
def yD61 : List YD := yD_61 :: yD60
theorem yk_61 : ychk yKD (yct yB yD60) xMT xFT yEX xm61 yD_61.2.1 yD_61.2.2.1 6000 = true := by decide +kernel -- IceBoats$Sea.cellsAtTime
def yD62 : List YD := yD_62 :: yD61
theorem yk_62 : ychk yKD (yct yB yD61) xMT xFT yEX xm65 yD_62.2.1 yD_62.2.2.1 6000 = true := by decide +kernel -- IceBoats$Boat.keepCould
def yD63 : List YD := yD_63 :: yD62
theorem yk_63 : ychk yKD (yct yB yD62) xMT xFT yEX xm60 yD_63.2.1 yD_63.2.2.1 6000 = true := by decide +kernel -- IceBoats.takeIn
def yD64 : List YD := yD_64 :: yD63
theorem yk_64 : ychk yKD (yct yB yD63) xMT xFT yEX xm59 yD_64.2.1 yD_64.2.2.1 6000 = true := by decide +kernel -- IceBoats.loseMetWords
def yD65 : List YD := yD_65 :: yD64
theorem yk_65 : ychk yKD (yct yB yD64) xMT xFT yEX xm57 yD_65.2.1 yD_65.2.2.1 6000 = true := by decide +kernel -- IceBoats.hearWhatComes
def yD66 : List YD := yD_66 :: yD65
theorem yk_66 : ychk yKD (yct yB yD65) xMT xFT yEX xm71 yD_66.2.1 yD_66.2.2.1 6000 = true := by decide +kernel -- IceBoats$Boat.failIfDue
def yD67 : List YD := yD_67 :: yD66
theorem yk_67 : ychk yKD (yct yB yD66) xMT xFT yEX xm51 yD_67.2.1 yD_67.2.2.1 6000 = true := by decide +kernel -- IceBoats.tick
def yD68 : List YD := yD_68 :: yD67
theorem yk_68 : ychk yKD (yct yB yD67) xMT xFT yEX xm75 yD_68.2.1 yD_68.2.2.1 6000 = true := by decide +kernel -- IceBoats$Look.tellOf
def yD69 : List YD := yD_69 :: yD68
theorem yk_69 : ychk yKD (yct yB yD68) xMT xFT yEX xm74 yD_69.2.1 yD_69.2.2.1 6000 = true := by decide +kernel -- IceBoats.looked
def yD70 : List YD := yD_70 :: yD69
theorem yk_70 : ychk yKD (yct yB yD69) xMT xFT yEX xm77 yD_70.2.1 yD_70.2.2.1 6000 = true := by decide +kernel -- IceBoats$Sea.cellsChartedAs
def yD71 : List YD := yD_71 :: yD70
theorem yk_71 : ychk yKD (yct yB yD70) xMT xFT yEX xm76 yD_71.2.1 yD_71.2.2.1 6000 = true := by decide +kernel -- IceBoats.match
def yD72 : List YD := yD_72 :: yD71
theorem yk_72 : ychk yKD (yct yB yD71) xMT xFT yEX xm78 yD_72.2.1 yD_72.2.2.1 6000 = true := by decide +kernel -- IceBoats.home
def yD73 : List YD := yD_73 :: yD72
theorem yk_73 : ychk yKD (yct yB yD72) xMT xFT yEX xm80 yD_73.2.1 yD_73.2.2.1 6000 = true := by decide +kernel -- IceBoats.isOpenCell
def yD74 : List YD := yD_74 :: yD73
theorem yk_74 : ychk yKD (yct yB yD73) xMT xFT yEX xm81 yD_74.2.1 yD_74.2.2.1 6000 = true := by decide +kernel -- IceBoats$Sea.soundTime
def yD75 : List YD := yD_75 :: yD74
theorem yk_75 : ychk yKD (yct yB yD74) xMT xFT yEX xm79 yD_75.2.1 yD_75.2.2.1 6000 = true := by decide +kernel -- IceBoats.time
def yD76 : List YD := yD_76 :: yD75
theorem yk_76 : ychk yKD (yct yB yD75) xMT xFT yEX xm88 yD_76.2.1 yD_76.2.2.1 6000 = true := by decide +kernel -- IceBoats.wordAt
def yD77 : List YD := yD_77 :: yD76
theorem yk_77 : ychk yKD (yct yB yD76) xMT xFT yEX xm89 yD_77.2.1 yD_77.2.2.1 6000 = true := by decide +kernel -- IceBoats$Word.tellOf
def yD78 : List YD := yD_78 :: yD77
theorem yk_78 : ychk yKD (yct yB yD77) xMT xFT yEX xm87 yD_78.2.1 yD_78.2.2.1 6000 = true := by decide +kernel -- IceBoats.word
def yD79 : List YD := yD_79 :: yD78
theorem yk_79 : ychk yKD (yct yB yD78) xMT xFT yEX xm92 yD_79.2.1 yD_79.2.2.1 6000 = true := by decide +kernel -- IceBoats$Word.hearers
def yD80 : List YD := yD_80 :: yD79
theorem yk_80 : ychk yKD (yct yB yD79) xMT xFT yEX xm91 yD_80.2.1 yD_80.2.2.1 6000 = true := by decide +kernel -- IceBoats.iceOfLook
def yD81 : List YD := yD_81 :: yD80
theorem yk_81 : ychk yKD (yct yB yD80) xMT xFT yEX xm90 yD_81.2.1 yD_81.2.2.1 6000 = true := by decide +kernel -- IceBoats.tells
def yD82 : List YD := yD_82 :: yD81
theorem yk_82 : ychk yKD (yct yB yD81) xMT xFT yEX xm93 yD_82.2.1 yD_82.2.2.1 6000 = true := by decide +kernel -- IceBoats.heard
def yD83 : List YD := yD_83 :: yD82
theorem yk_83 : ychk yKD (yct yB yD82) xMT xFT yEX xm95 yD_83.2.1 yD_83.2.2.1 6000 = true := by decide +kernel -- IceBoats.isBoatOrNone
def yD84 : List YD := yD_84 :: yD83
theorem yk_84 : ychk yKD (yct yB yD83) xMT xFT yEX xm96 yD_84.2.1 yD_84.2.2.1 6000 = true := by decide +kernel -- IceBoats$Word.knownBy
def yD85 : List YD := yD_85 :: yD84
theorem yk_85 : ychk yKD (yct yB yD84) xMT xFT yEX xm98 yD_85.2.1 yD_85.2.2.1 6000 = true := by decide +kernel -- IceBoats.firstHeardFrom
def yD86 : List YD := yD_86 :: yD85
theorem yk_86 : ychk yKD (yct yB yD85) xMT xFT yEX xm98 yD_86.2.1 yD_86.2.2.1 6000 = true := by decide +kernel -- IceBoats.firstHeardFrom
def yD87 : List YD := yD_87 :: yD86
theorem yk_87 : ychk yKD (yct yB yD86) xMT xFT yEX xm97 yD_87.2.1 yD_87.2.2.1 6000 = true := by decide +kernel -- IceBoats.knownOf
def yD88 : List YD := yD_88 :: yD87
theorem yk_88 : ychk yKD (yct yB yD87) xMT xFT yEX xm99 yD_88.2.1 yD_88.2.2.1 6000 = true := by decide +kernel -- IceBoats.knownOfKnown
def yD89 : List YD := yD_89 :: yD88
theorem yk_89 : ychk yKD (yct yB yD88) xMT xFT yEX xm94 yD_89.2.1 yD_89.2.2.1 6000 = true := by decide +kernel -- IceBoats.knows
def yD90 : List YD := yD_90 :: yD89
theorem yk_90 : ychk yKD (yct yB yD89) xMT xFT yEX xm102 yD_90.2.1 yD_90.2.2.1 6000 = true := by decide +kernel -- IceBoats.laterOrNone
def yD91 : List YD := yD_91 :: yD90
theorem yk_91 : ychk yKD (yct yB yD90) xMT xFT yEX xm101 yD_91.2.1 yD_91.2.2.1 6000 = true := by decide +kernel -- IceBoats.knownOfAll
def yD92 : List YD := yD_92 :: yD91
theorem yk_92 : ychk yKD (yct yB yD91) xMT xFT yEX xm100 yD_92.2.1 yD_92.2.2.1 6000 = true := by decide +kernel -- IceBoats.allKnow
def yD93 : List YD := yD_93 :: yD92
theorem yk_93 : ychk yKD (yct yB yD92) xMT xFT yEX xm105 yD_93.2.1 yD_93.2.2.1 6000 = true := by decide +kernel -- IceBoats$RuleReader.letterOf
def yD94 : List YD := yD_94 :: yD93
theorem yk_94 : ychk yKD (yct yB yD93) xMT xFT yEX xm106 yD_94.2.1 yD_94.2.2.1 6000 = true := by decide +kernel -- IceBoats$RuleReader.endOfDigits
def yD95 : List YD := yD_95 :: yD94
theorem yk_95 : ychk yKD (yct yB yD94) xMT xFT yEX xm107 yD_95.2.1 yD_95.2.2.1 6000 = true := by decide +kernel -- IceBoats$RuleReader.numberIn
def yD96 : List YD := yD_96 :: yD95
theorem yk_96 : ychk yKD (yct yB yD95) xMT xFT yEX xm104 yD_96.2.1 yD_96.2.2.1 6000 = true := by decide +kernel -- IceBoats$RuleReader.readRules
def yD97 : List YD := yD_97 :: yD96
theorem yk_97 : ychk yKD (yct yB yD96) xMT xFT yEX xm103 yD_97.2.1 yD_97.2.2.1 6000 = true := by decide +kernel -- IceBoats.fault
def yD98 : List YD := yD_98 :: yD97
theorem yk_98 : ychk yKD (yct yB yD97) xMT xFT yEX xm108 yD_98.2.1 yD_98.2.2.1 6000 = true := by decide +kernel -- IceBoats.rules
def yD99 : List YD := yD_99 :: yD98
theorem yk_99 : ychk yKD (yct yB yD98) xMT xFT yEX xm109 yD_99.2.1 yD_99.2.2.1 6000 = true := by decide +kernel -- IceBoats.rule
def yD100 : List YD := yD_100 :: yD99
theorem yk_100 : ychk yKD (yct yB yD99) xMT xFT yEX xm111 yD_100.2.1 yD_100.2.2.1 6000 = true := by decide +kernel -- IceBoats.isDueNow
def yD101 : List YD := yD_101 :: yD100
theorem yk_101 : ychk yKD (yct yB yD100) xMT xFT yEX xm110 yD_101.2.1 yD_101.2.2.1 6000 = true := by decide +kernel -- IceBoats.asks
def yD102 : List YD := yD_102 :: yD101
theorem yk_102 : ychk yKD (yct yB yD101) xMT xFT yEX xm113 yD_102.2.1 yD_102.2.2.1 6000 = true := by decide +kernel -- IceBoats.isMap
def yD103 : List YD := yD_103 :: yD102
theorem yk_103 : ychk yKD (yct yB yD102) xMT xFT yEX xm114 yD_103.2.1 yD_103.2.2.1 6000 = true := by decide +kernel -- IceBoats.alikePlaces
def yD104 : List YD := yD_104 :: yD103
theorem yk_104 : ychk yKD (yct yB yD103) xMT xFT yEX xm112 yD_104.2.1 yD_104.2.2.1 6000 = true := by decide +kernel -- IceBoats.shifts
def yD105 : List YD := yD_105 :: yD104
theorem yk_105 : ychk yKD (yct yB yD104) xMT xFT yEX xm115 yD_105.2.1 yD_105.2.2.1 6000 = true := by decide +kernel -- IceBoats.mapped
def yD106 : List YD := yD_106 :: yD105
theorem yk_106 : ychk yKD (yct yB yD105) xMT xFT yEX xm120 yD_106.2.1 yD_106.2.2.1 6000 = true := by decide +kernel -- IceBoats.areWays
def yD107 : List YD := yD_107 :: yD106
theorem yk_107 : ychk yKD (yct yB yD106) xMT xFT yEX xm119 yD_107.2.1 yD_107.2.2.1 6000 = true := by decide +kernel -- IceBoats.faultOfWays
def yD108 : List YD := yD_108 :: yD107
theorem yk_108 : ychk yKD (yct yB yD107) xMT xFT yEX xm130 yD_108.2.1 yD_108.2.2.1 6000 = true := by decide +kernel -- IceBoats$Drift.clearNext
def yD109 : List YD := yD_109 :: yD108
theorem yk_109 : ychk yKD (yct yB yD108) xMT xFT yEX xm131 yD_109.2.1 yD_109.2.2.1 6000 = true := by decide +kernel -- IceBoats$Drift.swapNext
def yD110 : List YD := yD_110 :: yD109
theorem yk_110 : ychk yKD (yct yB yD109) xMT xFT yEX xm129 yD_110.2.1 yD_110.2.2.1 6000 = true := by decide +kernel -- IceBoats$Drift.startIn
def yD111 : List YD := yD_111 :: yD110
theorem yk_111 : ychk yKD (yct yB yD110) xMT xFT yEX xm133 yD_111.2.1 yD_111.2.2.1 6000 = true := by decide +kernel -- IceBoats$Drift.lead
def yD112 : List YD := yD_112 :: yD111
theorem yk_112 : ychk yKD (yct yB yD111) xMT xFT yEX xm132 yD_112.2.1 yD_112.2.2.1 6000 = true := by decide +kernel -- IceBoats$Drift.follow
def yD113 : List YD := yD_113 :: yD112
theorem yk_113 : ychk yKD (yct yB yD112) xMT xFT yEX xm134 yD_113.2.1 yD_113.2.2.1 6000 = true := by decide +kernel -- IceBoats.tellShare
def yD114 : List YD := yD_114 :: yD113
theorem yk_114 : ychk yKD (yct yB yD113) xMT xFT yEX xm128 yD_114.2.1 yD_114.2.2.1 6000 = true := by decide +kernel -- IceBoats.odds
def yD115 : List YD := yD_115 :: yD114
theorem yk_115 : ychk yKD (yct yB yD114) xMT xFT yEX xm137 yD_115.2.1 yD_115.2.2.1 6000 = true := by decide +kernel -- IceBoats.areSights
def yD116 : List YD := yD_116 :: yD115
theorem yk_116 : ychk yKD (yct yB yD115) xMT xFT yEX xm136 yD_116.2.1 yD_116.2.2.1 6000 = true := by decide +kernel -- IceBoats.faultOfCourses
def yD117 : List YD := yD_117 :: yD116
theorem yk_117 : ychk yKD (yct yB yD116) xMT xFT yEX xm139 yD_117.2.1 yD_117.2.2.1 6000 = true := by decide +kernel -- IceBoats$Drift.keepOnly
def yD118 : List YD := yD_118 :: yD117
theorem yk_118 : ychk yKD (yct yB yD117) xMT xFT yEX xm138 yD_118.2.1 yD_118.2.2.1 6000 = true := by decide +kernel -- IceBoats.keepWhatWasSeen
def yD119 : List YD := yD_119 :: yD118
theorem yk_119 : ychk yKD (yct yB yD118) xMT xFT yEX xm140 yD_119.2.1 yD_119.2.2.1 6000 = true := by decide +kernel -- IceBoats$Drift.leastOddRow
def yD120 : List YD := yD_120 :: yD119
theorem yk_120 : ychk yKD (yct yB yD119) xMT xFT yEX xm141 yD_120.2.1 yD_120.2.2.1 6000 = true := by decide +kernel -- IceBoats$Drift.sumOfWeights
def yD121 : List YD := yD_121 :: yD120
theorem yk_121 : ychk yKD (yct yB yD120) xMT xFT yEX xm135 yD_121.2.1 yD_121.2.2.1 6000 = true := by decide +kernel -- IceBoats.courses
def yD122 : List YD := yD_122 :: yD121
theorem yk_122 : ychk yKD (yct yB yD121) xMT xFT yEX xm142 yD_122.2.1 yD_122.2.2.1 6000 = true := by decide +kernel -- IceBoats.asked
def yD123 : List YD := yD_123 :: yD122
theorem yk_123 : ychk yKD (yct yB yD122) xMT xFT yEX xm143 yD_123.2.1 yD_123.2.2.1 6000 = true := by decide +kernel -- IceBoats.set
def yD124 : List YD := yD_124 :: yD123
theorem yk_124 : ychk yKD (yct yB yD123) xMT xFT yEX xm144 yD_124.2.1 yD_124.2.2.1 6000 = true := by decide +kernel -- IceBoats.upper
def yD125 : List YD := yD_125 :: yD124
theorem yk_125 : ychk yKD (yct yB yD124) xMT xFT yEX xm145 yD_125.2.1 yD_125.2.2.1 6000 = true := by decide +kernel -- IceBoats.lower
def yD126 : List YD := yD_126 :: yD125
theorem yk_126 : ychk yKD (yct yB yD125) xMT xFT yEX xm149 yD_126.2.1 yD_126.2.2.1 6000 = true := by decide +kernel -- IceBoats.rowsThere
def yD127 : List YD := yD_127 :: yD126
theorem yk_127 : ychk yKD (yct yB yD126) xMT xFT yEX xm149 yD_127.2.1 yD_127.2.2.1 6000 = true := by decide +kernel -- IceBoats.rowsThere
def yD128 : List YD := yD_128 :: yD127
theorem yk_128 : ychk yKD (yct yB yD127) xMT xFT yEX xm148 yD_128.2.1 yD_128.2.2.1 6000 = true := by decide +kernel -- IceBoats.boatsOfKind
def yD129 : List YD := yD_129 :: yD128
theorem yk_129 : ychk yKD (yct yB yD128) xMT xFT yEX xm147 yD_129.2.1 yD_129.2.2.1 6000 = true := by decide +kernel -- IceBoats.ableBoats
def yD130 : List YD := yD_130 :: yD129
theorem yk_130 : ychk yKD (yct yB yD129) xMT xFT yEX xm146 yD_130.2.1 yD_130.2.2.1 6000 = true := by decide +kernel -- IceBoats.count
def yD131 : List YD := yD_131 :: yD130
theorem yk_131 : ychk yKD (yct yB yD130) xMT xFT yEX xm150 yD_131.2.1 yD_131.2.2.1 6000 = true := by decide +kernel -- IceBoats.finding
def yD132 : List YD := yD_132 :: yD131
theorem yk_132 : ychk yKD (yct yB yD131) xMT xFT yEX xm151 yD_132.2.1 yD_132.2.2.1 6000 = true := by decide +kernel -- IceBoats.findings
def yD133 : List YD := yD_133 :: yD132
theorem yk_133 : ychk yKD (yct yB yD132) xMT xFT yEX xm153 yD_133.2.1 yD_133.2.2.1 6000 = true := by decide +kernel -- IceBoats.digestBoats
def yD134 : List YD := yD_134 :: yD133
theorem yk_134 : ychk yKD (yct yB yD133) xMT xFT yEX xm154 yD_134.2.1 yD_134.2.2.1 6000 = true := by decide +kernel -- IceBoats.digestWords
def yD135 : List YD := yD_135 :: yD134
theorem yk_135 : ychk yKD (yct yB yD134) xMT xFT yEX xm155 yD_135.2.1 yD_135.2.2.1 6000 = true := by decide +kernel -- IceBoats.digestLooks
def yD136 : List YD := yD_136 :: yD135
theorem yk_136 : ychk yKD (yct yB yD135) xMT xFT yEX xm156 yD_136.2.1 yD_136.2.2.1 6000 = true := by decide +kernel -- IceBoats.digestRows
def yD137 : List YD := yD_137 :: yD136
theorem yk_137 : ychk yKD (yct yB yD136) xMT xFT yEX xm156 yD_137.2.1 yD_137.2.2.1 6000 = true := by decide +kernel -- IceBoats.digestRows
def yD138 : List YD := yD_138 :: yD137
theorem yk_138 : ychk yKD (yct yB yD137) xMT xFT yEX xm152 yD_138.2.1 yD_138.2.2.1 6000 = true := by decide +kernel -- IceBoats.digest
def yD139 : List YD := yD_139 :: yD138
theorem yk_139 : ychk yKD (yct yB yD138) xMT xFT yEX xm160 yD_139.2.1 yD_139.2.2.1 6000 = true := by decide +kernel -- IceBoatsModel.in
def yD140 : List YD := yD_140 :: yD139
theorem yk_140 : ychk yKD (yct yB yD139) xMT xFT yEX xm159 yD_140.2.1 yD_140.2.2.1 6000 = true := by decide +kernel -- IceBoatsModel.isRow
def yD141 : List YD := yD_141 :: yD140
theorem yk_141 : ychk yKD (yct yB yD140) xMT xFT yEX xm161 yD_141.2.1 yD_141.2.2.1 6000 = true := by decide +kernel -- IceBoatsModel.meets
def yD142 : List YD := yD_142 :: yD141
theorem yk_142 : ychk yKD (yct yB yD141) xMT xFT yEX xm158 yD_142.2.1 yD_142.2.2.1 6000 = true := by decide +kernel -- IceBoatsModel.row
def yD143 : List YD := yD_143 :: yD142
theorem yk_143 : ychk yKD (yct yB yD142) xMT xFT yEX xm163 yD_143.2.1 yD_143.2.2.1 6000 = true := by decide +kernel -- IceBoatsModel.askedRow
def yD144 : List YD := yD_144 :: yD143
theorem yk_144 : ychk yKD (yct yB yD143) xMT xFT yEX xm164 yD_144.2.1 yD_144.2.2.1 6000 = true := by decide +kernel -- IceBoatsModel.rowAt
def yD145 : List YD := yD_145 :: yD144
theorem yk_145 : ychk yKD (yct yB yD144) xMT xFT yEX xm162 yD_145.2.1 yD_145.2.2.1 6000 = true := by decide +kernel -- IceBoatsModel.lay
def yD146 : List YD := yD_146 :: yD145
theorem yk_146 : ychk yKD (yct yB yD145) xMT xFT yEX xm165 yD_146.2.1 yD_146.2.2.1 6000 = true := by decide +kernel -- IceBoatsModel.tear
def yD147 : List YD := yD_147 :: yD146
theorem yk_147 : ychk yKD (yct yB yD146) xMT xFT yEX xm166 yD_147.2.1 yD_147.2.2.1 6000 = true := by decide +kernel -- IceBoatsModel.copy
def yD148 : List YD := yD_148 :: yD147
theorem yk_148 : ychk yKD (yct yB yD147) xMT xFT yEX xm168 yD_148.2.1 yD_148.2.2.1 6000 = true := by decide +kernel -- IceBoatsModel.ask
def yD149 : List YD := yD_149 :: yD148
theorem yk_149 : ychk yKD (yct yB yD148) xMT xFT yEX xm167 yD_149.2.1 yD_149.2.2.1 6000 = true := by decide +kernel -- IceBoatsModel.mean
def yD150 : List YD := yD_150 :: yD149
theorem yk_150 : ychk yKD (yct yB yD149) xMT xFT yEX xm170 yD_150.2.1 yD_150.2.2.1 6000 = true := by decide +kernel -- IceBoatsModel.isText
def yD151 : List YD := yD_151 :: yD150
theorem yk_151 : ychk yKD (yct yB yD150) xMT xFT yEX xm169 yD_151.2.1 yD_151.2.2.1 6000 = true := by decide +kernel -- IceBoatsModel.text
def yD152 : List YD := yD_152 :: yD151
theorem yk_152 : ychk yKD (yct yB yD151) xMT xFT yEX xm172 yD_152.2.1 yD_152.2.2.1 6000 = true := by decide +kernel -- IceBoatsModel.askedText
def yD153 : List YD := yD_153 :: yD152
theorem yk_153 : ychk yKD (yct yB yD152) xMT xFT yEX xm171 yD_153.2.1 yD_153.2.2.1 6000 = true := by decide +kernel -- IceBoatsModel.put
def yD154 : List YD := yD_154 :: yD153
theorem yk_154 : ychk yKD (yct yB yD153) xMT xFT yEX xm174 yD_154.2.1 yD_154.2.2.1 6000 = true := by decide +kernel -- IceBoatsModel.isCell
def yD155 : List YD := yD_155 :: yD154
theorem yk_155 : ychk yKD (yct yB yD154) xMT xFT yEX xm175 yD_155.2.1 yD_155.2.2.1 6000 = true := by decide +kernel -- IceBoatsModel.isTaken
def yD156 : List YD := yD_156 :: yD155
theorem yk_156 : ychk yKD (yct yB yD155) xMT xFT yEX xm173 yD_156.2.1 yD_156.2.2.1 6000 = true := by decide +kernel -- IceBoatsModel.rock
def yD157 : List YD := yD_157 :: yD156
theorem yk_157 : ychk yKD (yct yB yD156) xMT xFT yEX xm177 yD_157.2.1 yD_157.2.2.1 6000 = true := by decide +kernel -- IceBoatsModel.isWay
def yD158 : List YD := yD_158 :: yD157
theorem yk_158 : ychk yKD (yct yB yD157) xMT xFT yEX xm178 yD_158.2.1 yD_158.2.2.1 6000 = true := by decide +kernel -- IceBoatsModel.isIce
def yD159 : List YD := yD_159 :: yD158
theorem yk_159 : ychk yKD (yct yB yD158) xMT xFT yEX xm176 yD_159.2.1 yD_159.2.2.1 6000 = true := by decide +kernel -- IceBoatsModel.cell
def yD160 : List YD := yD_160 :: yD159
theorem yk_160 : ychk yKD (yct yB yD159) xMT xFT yEX xm180 yD_160.2.1 yD_160.2.2.1 6000 = true := by decide +kernel -- IceBoatsModel.seaTells
def yD161 : List YD := yD_161 :: yD160
theorem yk_161 : ychk yKD (yct yB yD160) xMT xFT yEX xm179 yD_161.2.1 yD_161.2.2.1 6000 = true := by decide +kernel -- IceBoatsModel.sea
def yD162 : List YD := yD_162 :: yD161
theorem yk_162 : ychk yKD (yct yB yD161) xMT xFT yEX xm181 yD_162.2.1 yD_162.2.2.1 6000 = true := by decide +kernel -- IceBoatsModel.chart
def yD163 : List YD := yD_163 :: yD162
theorem yk_163 : ychk yKD (yct yB yD162) xMT xFT yEX xm182 yD_163.2.1 yD_163.2.2.1 6000 = true := by decide +kernel -- IceBoatsModel.hole
def yD164 : List YD := yD_164 :: yD163
theorem yk_164 : ychk yKD (yct yB yD163) xMT xFT yEX xm183 yD_164.2.1 yD_164.2.2.1 6000 = true := by decide +kernel -- IceBoatsModel.seed
def yD165 : List YD := yD_165 :: yD164
theorem yk_165 : ychk yKD (yct yB yD164) xMT xFT yEX xm184 yD_165.2.1 yD_165.2.2.1 6000 = true := by decide +kernel -- IceBoatsModel.time
def yD166 : List YD := yD_166 :: yD165
theorem yk_166 : ychk yKD (yct yB yD165) xMT xFT yEX xm188 yD_166.2.1 yD_166.2.2.1 6000 = true := by decide +kernel -- IceBoatsModel.isBoat
def yD167 : List YD := yD_167 :: yD166
theorem yk_167 : ychk yKD (yct yB yD166) xMT xFT yEX xm187 yD_167.2.1 yD_167.2.2.1 6000 = true := by decide +kernel -- IceBoatsModel.boat
def yD168 : List YD := yD_168 :: yD167
theorem yk_168 : ychk yKD (yct yB yD167) xMT xFT yEX xm193 yD_168.2.1 yD_168.2.2.1 6000 = true := by decide +kernel -- IceBoatsModel.heldBy
def yD169 : List YD := yD_169 :: yD168
theorem yk_169 : ychk yKD (yct yB yD168) xMT xFT yEX xm191 yD_169.2.1 yD_169.2.2.1 6000 = true := by decide +kernel -- IceBoatsModel.many
def yD170 : List YD := yD_170 :: yD169
theorem yk_170 : ychk yKD (yct yB yD169) xMT xFT yEX xm190 yD_170.2.1 yD_170.2.2.1 6000 = true := by decide +kernel -- IceBoatsModel.boatTells
def yD171 : List YD := yD_171 :: yD170
theorem yk_171 : ychk yKD (yct yB yD170) xMT xFT yEX xm189 yD_171.2.1 yD_171.2.2.1 6000 = true := by decide +kernel -- IceBoatsModel.told
def yD172 : List YD := yD_172 :: yD171
theorem yk_172 : ychk yKD (yct yB yD171) xMT xFT yEX xm194 yD_172.2.1 yD_172.2.2.1 6000 = true := by decide +kernel -- IceBoatsModel.mark
def yD173 : List YD := yD_173 :: yD172
theorem yk_173 : ychk yKD (yct yB yD172) xMT xFT yEX xm195 yD_173.2.1 yD_173.2.2.1 6000 = true := by decide +kernel -- IceBoatsModel.could
def yD174 : List YD := yD_174 :: yD173
theorem yk_174 : ychk yKD (yct yB yD173) xMT xFT yEX xm197 yD_174.2.1 yD_174.2.2.1 6000 = true := by decide +kernel -- IceBoatsModel.isAble
def yD175 : List YD := yD_175 :: yD174
theorem yk_175 : ychk yKD (yct yB yD174) xMT xFT yEX xm196 yD_175.2.1 yD_175.2.2.1 6000 = true := by decide +kernel -- IceBoatsModel.go
def yD176 : List YD := yD_176 :: yD175
theorem yk_176 : ychk yKD (yct yB yD175) xMT xFT yEX xm186 yD_176.2.1 yD_176.2.2.1 6000 = true := by decide +kernel -- IceBoatsModel.leads
def yD177 : List YD := yD_177 :: yD176
theorem yk_177 : ychk yKD (yct yB yD176) xMT xFT yEX xm200 yD_177.2.1 yD_177.2.2.1 6000 = true := by decide +kernel -- IceBoatsModel.isCarried
def yD178 : List YD := yD_178 :: yD177
theorem yk_178 : ychk yKD (yct yB yD177) xMT xFT yEX xm199 yD_178.2.1 yD_178.2.2.1 6000 = true := by decide +kernel -- IceBoatsModel.moves
def yD179 : List YD := yD_179 :: yD178
theorem yk_179 : ychk yKD (yct yB yD178) xMT xFT yEX xm205 yD_179.2.1 yD_179.2.2.1 6000 = true := by decide +kernel -- IceBoatsModel.least
def yD180 : List YD := yD_180 :: yD179
theorem yk_180 : ychk yKD (yct yB yD179) xMT xFT yEX xm206 yD_180.2.1 yD_180.2.2.1 6000 = true := by decide +kernel -- IceBoatsModel.apart
def yD181 : List YD := yD_181 :: yD180
theorem yk_181 : ychk yKD (yct yB yD180) xMT xFT yEX xm204 yD_181.2.1 yD_181.2.2.1 6000 = true := by decide +kernel -- IceBoatsModel.nearer
def yD182 : List YD := yD_182 :: yD181
theorem yk_182 : ychk yKD (yct yB yD181) xMT xFT yEX xm203 yD_182.2.1 yD_182.2.2.1 6000 = true := by decide +kernel -- IceBoatsModel.keepsFar
def yD183 : List YD := yD_183 :: yD182
theorem yk_183 : ychk yKD (yct yB yD182) xMT xFT yEX xm202 yD_183.2.1 yD_183.2.2.1 6000 = true := by decide +kernel -- IceBoatsModel.takes
def yD184 : List YD := yD_184 :: yD183
theorem yk_184 : ychk yKD (yct yB yD183) xMT xFT yEX xm201 yD_184.2.1 yD_184.2.2.1 6000 = true := by decide +kernel -- IceBoatsModel.hears
def yD185 : List YD := yD_185 :: yD184
theorem yk_185 : ychk yKD (yct yB yD184) xMT xFT yEX xm198 yD_185.2.1 yD_185.2.2.1 6000 = true := by decide +kernel -- IceBoatsModel.tick
def yD186 : List YD := yD_186 :: yD185
theorem yk_186 : ychk yKD (yct yB yD185) xMT xFT yEX xm207 yD_186.2.1 yD_186.2.2.1 6000 = true := by decide +kernel -- IceBoatsModel.look
def yD187 : List YD := yD_187 :: yD186
theorem yk_187 : ychk yKD (yct yB yD186) xMT xFT yEX xm209 yD_187.2.1 yD_187.2.2.1 6000 = true := by decide +kernel -- IceBoatsModel.isLook
def yD188 : List YD := yD_188 :: yD187
theorem yk_188 : ychk yKD (yct yB yD187) xMT xFT yEX xm210 yD_188.2.1 yD_188.2.2.1 6000 = true := by decide +kernel -- IceBoatsModel.lookTells
def yD189 : List YD := yD_189 :: yD188
theorem yk_189 : ychk yKD (yct yB yD188) xMT xFT yEX xm208 yD_189.2.1 yD_189.2.2.1 6000 = true := by decide +kernel -- IceBoatsModel.looked
def yD190 : List YD := yD_190 :: yD189
theorem yk_190 : ychk yKD (yct yB yD189) xMT xFT yEX xm211 yD_190.2.1 yD_190.2.2.1 6000 = true := by decide +kernel -- IceBoatsModel.match
def yD191 : List YD := yD_191 :: yD190
theorem yk_191 : ychk yKD (yct yB yD190) xMT xFT yEX xm212 yD_191.2.1 yD_191.2.2.1 6000 = true := by decide +kernel -- IceBoatsModel.home
def yD192 : List YD := yD_192 :: yD191
theorem yk_192 : ychk yKD (yct yB yD191) xMT xFT yEX xm214 yD_192.2.1 yD_192.2.2.1 6000 = true := by decide +kernel -- IceBoatsModel.isSaid
def yD193 : List YD := yD_193 :: yD192
theorem yk_193 : ychk yKD (yct yB yD192) xMT xFT yEX xm213 yD_193.2.1 yD_193.2.2.1 6000 = true := by decide +kernel -- IceBoatsModel.say
def yD194 : List YD := yD_194 :: yD193
theorem yk_194 : ychk yKD (yct yB yD193) xMT xFT yEX xm216 yD_194.2.1 yD_194.2.2.1 6000 = true := by decide +kernel -- IceBoatsModel.isWord
def yD195 : List YD := yD_195 :: yD194
theorem yk_195 : ychk yKD (yct yB yD194) xMT xFT yEX xm217 yD_195.2.1 yD_195.2.2.1 6000 = true := by decide +kernel -- IceBoatsModel.wordTells
def yD196 : List YD := yD_196 :: yD195
theorem yk_196 : ychk yKD (yct yB yD195) xMT xFT yEX xm215 yD_196.2.1 yD_196.2.2.1 6000 = true := by decide +kernel -- IceBoatsModel.word
def yD197 : List YD := yD_197 :: yD196
theorem yk_197 : ychk yKD (yct yB yD196) xMT xFT yEX xm218 yD_197.2.1 yD_197.2.2.1 6000 = true := by decide +kernel -- IceBoatsModel.tells
def yD198 : List YD := yD_198 :: yD197
theorem yk_198 : ychk yKD (yct yB yD197) xMT xFT yEX xm219 yD_198.2.1 yD_198.2.2.1 6000 = true := by decide +kernel -- IceBoatsModel.heard
def yD199 : List YD := yD_199 :: yD198
theorem yk_199 : ychk yKD (yct yB yD198) xMT xFT yEX xm222 yD_199.2.1 yD_199.2.2.1 6000 = true := by decide +kernel -- IceBoatsModel.knowsAt
def yD200 : List YD := yD_200 :: yD199
theorem yk_200 : ychk yKD (yct yB yD199) xMT xFT yEX xm223 yD_200.2.1 yD_200.2.2.1 6000 = true := by decide +kernel -- IceBoatsModel.learns
def yD201 : List YD := yD_201 :: yD200
theorem yk_201 : ychk yKD (yct yB yD200) xMT xFT yEX xm221 yD_201.2.1 yD_201.2.2.1 6000 = true := by decide +kernel -- IceBoatsModel.knowsOf
def yD202 : List YD := yD_202 :: yD201
theorem yk_202 : ychk yKD (yct yB yD201) xMT xFT yEX xm221 yD_202.2.1 yD_202.2.2.1 6000 = true := by decide +kernel -- IceBoatsModel.knowsOf
def yD203 : List YD := yD_203 :: yD202
theorem yk_203 : ychk yKD (yct yB yD202) xMT xFT yEX xm221 yD_203.2.1 yD_203.2.2.1 6000 = true := by decide +kernel -- IceBoatsModel.knowsOf
def yD204 : List YD := yD_204 :: yD203
theorem yk_204 : ychk yKD (yct yB yD203) xMT xFT yEX xm220 yD_204.2.1 yD_204.2.2.1 6000 = true := by decide +kernel -- IceBoatsModel.knows
def yD205 : List YD := yD_205 :: yD204
theorem yk_205 : ychk yKD (yct yB yD204) xMT xFT yEX xm224 yD_205.2.1 yD_205.2.2.1 6000 = true := by decide +kernel -- IceBoatsModel.allKnow
def yD206 : List YD := yD_206 :: yD205
theorem yk_206 : ychk yKD (yct yB yD205) xMT xFT yEX xm227 yD_206.2.1 yD_206.2.2.1 6000 = true := by decide +kernel -- IceBoatsModel.letter
def yD207 : List YD := yD_207 :: yD206
theorem yk_207 : ychk yKD (yct yB yD206) xMT xFT yEX xm226 yD_207.2.1 yD_207.2.2.1 6000 = true := by decide +kernel -- IceBoatsModel.reads
def yD208 : List YD := yD_208 :: yD207
theorem yk_208 : ychk yKD (yct yB yD207) xMT xFT yEX xm225 yD_208.2.1 yD_208.2.2.1 6000 = true := by decide +kernel -- IceBoatsModel.fault
def yD209 : List YD := yD_209 :: yD208
theorem yk_209 : ychk yKD (yct yB yD208) xMT xFT yEX xm228 yD_209.2.1 yD_209.2.2.1 6000 = true := by decide +kernel -- IceBoatsModel.rules
def yD210 : List YD := yD_210 :: yD209
theorem yk_210 : ychk yKD (yct yB yD209) xMT xFT yEX xm229 yD_210.2.1 yD_210.2.2.1 6000 = true := by decide +kernel -- IceBoatsModel.rule
def yD211 : List YD := yD_211 :: yD210
theorem yk_211 : ychk yKD (yct yB yD210) xMT xFT yEX xm230 yD_211.2.1 yD_211.2.2.1 6000 = true := by decide +kernel -- IceBoatsModel.asks
def yD212 : List YD := yD_212 :: yD211
theorem yk_212 : ychk yKD (yct yB yD211) xMT xFT yEX xm232 yD_212.2.1 yD_212.2.2.1 6000 = true := by decide +kernel -- IceBoatsModel.isMap
def yD213 : List YD := yD_213 :: yD212
theorem yk_213 : ychk yKD (yct yB yD212) xMT xFT yEX xm233 yD_213.2.1 yD_213.2.2.1 6000 = true := by decide +kernel -- IceBoatsModel.agrees
def yD214 : List YD := yD_214 :: yD213
theorem yk_214 : ychk yKD (yct yB yD213) xMT xFT yEX xm231 yD_214.2.1 yD_214.2.2.1 6000 = true := by decide +kernel -- IceBoatsModel.shifts
def yD215 : List YD := yD_215 :: yD214
theorem yk_215 : ychk yKD (yct yB yD214) xMT xFT yEX xm234 yD_215.2.1 yD_215.2.2.1 6000 = true := by decide +kernel -- IceBoatsModel.mapped
def yD216 : List YD := yD_216 :: yD215
theorem yk_216 : ychk yKD (yct yB yD215) xMT xFT yEX xm236 yD_216.2.1 yD_216.2.2.1 6000 = true := by decide +kernel -- IceBoatsModel.areWays
def yD217 : List YD := yD_217 :: yD216
theorem yk_217 : ychk yKD (yct yB yD216) xMT xFT yEX xm239 yD_217.2.1 yD_217.2.2.1 6000 = true := by decide +kernel -- IceBoatsModel.askedWays
def yD218 : List YD := yD_218 :: yD217
theorem yk_218 : ychk yKD (yct yB yD217) xMT xFT yEX xm238 yD_218.2.1 yD_218.2.2.1 6000 = true := by decide +kernel -- IceBoatsModel.odds
def yD219 : List YD := yD_219 :: yD218
theorem yk_219 : ychk yKD (yct yB yD218) xMT xFT yEX xm242 yD_219.2.1 yD_219.2.2.1 6000 = true := by decide +kernel -- IceBoatsModel.isCourse
def yD220 : List YD := yD_220 :: yD219
theorem yk_220 : ychk yKD (yct yB yD219) xMT xFT yEX xm241 yD_220.2.1 yD_220.2.2.1 6000 = true := by decide +kernel -- IceBoatsModel.courses
def yD221 : List YD := yD_221 :: yD220
theorem yk_221 : ychk yKD (yct yB yD220) xMT xFT yEX xm243 yD_221.2.1 yD_221.2.2.1 6000 = true := by decide +kernel -- IceBoatsModel.asked
def yD222 : List YD := yD_222 :: yD221
theorem yk_222 : ychk yKD (yct yB yD221) xMT xFT yEX xm244 yD_222.2.1 yD_222.2.2.1 6000 = true := by decide +kernel -- IceBoatsModel.set
def yD223 : List YD := yD_223 :: yD222
theorem yk_223 : ychk yKD (yct yB yD222) xMT xFT yEX xm245 yD_223.2.1 yD_223.2.2.1 6000 = true := by decide +kernel -- IceBoatsModel.upper
def yD224 : List YD := yD_224 :: yD223
theorem yk_224 : ychk yKD (yct yB yD223) xMT xFT yEX xm246 yD_224.2.1 yD_224.2.2.1 6000 = true := by decide +kernel -- IceBoatsModel.lower
def yD225 : List YD := yD_225 :: yD224
theorem yk_225 : ychk yKD (yct yB yD224) xMT xFT yEX xm248 yD_225.2.1 yD_225.2.2.1 6000 = true := by decide +kernel -- IceBoatsModel.counts
def yD226 : List YD := yD_226 :: yD225
theorem yk_226 : ychk yKD (yct yB yD225) xMT xFT yEX xm247 yD_226.2.1 yD_226.2.2.1 6000 = true := by decide +kernel -- IceBoatsModel.count
def yD227 : List YD := yD_227 :: yD226
theorem yk_227 : ychk yKD (yct yB yD226) xMT xFT yEX xm249 yD_227.2.1 yD_227.2.2.1 6000 = true := by decide +kernel -- IceBoatsModel.finding
def yD228 : List YD := yD_228 :: yD227
theorem yk_228 : ychk yKD (yct yB yD227) xMT xFT yEX xm250 yD_228.2.1 yD_228.2.2.1 6000 = true := by decide +kernel -- IceBoatsModel.findings
def yD229 : List YD := yD_229 :: yD228
theorem yk_229 : ychk yKD (yct yB yD228) xMT xFT yEX xm252 yD_229.2.1 yD_229.2.2.1 6000 = true := by decide +kernel -- IceBoatsModel.mix
def yD230 : List YD := yD_230 :: yD229
theorem yk_230 : ychk yKD (yct yB yD229) xMT xFT yEX xm253 yD_230.2.1 yD_230.2.2.1 6000 = true := by decide +kernel -- IceBoatsModel.mixBoats
def yD231 : List YD := yD_231 :: yD230
theorem yk_231 : ychk yKD (yct yB yD230) xMT xFT yEX xm254 yD_231.2.1 yD_231.2.2.1 6000 = true := by decide +kernel -- IceBoatsModel.mixWords
def yD232 : List YD := yD_232 :: yD231
theorem yk_232 : ychk yKD (yct yB yD231) xMT xFT yEX xm251 yD_232.2.1 yD_232.2.2.1 6000 = true := by decide +kernel -- IceBoatsModel.digest
def yD233 : List YD := yD_233 :: yD232
theorem yk_233 : ychk yKD (yct yB yD232) xMT xFT yEX xm83 yD_233.2.1 yD_233.2.2.1 6000 = true := by decide +kernel -- IceBoats.fitsWord
def yD234 : List YD := yD_234 :: yD233
theorem yk_234 : ychk yKD (yct yB yD233) xMT xFT yEX xm84 yD_234.2.1 yD_234.2.2.1 6000 = true := by decide +kernel -- IceBoats.holdsLook
def yD235 : List YD := yD_235 :: yD234
theorem yk_235 : ychk yKD (yct yB yD234) xMT xFT yEX xm86 yD_235.2.1 yD_235.2.2.1 6000 = true := by decide +kernel -- IceBoats.sendWord
