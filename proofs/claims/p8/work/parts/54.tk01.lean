/-! ===== contracts: checks, from 85 on ===== -/
-- IceBoats.firstHeardFrom
def yD85 : List YD := yD_85 :: yD84
theorem yk_85 : ychk yKD (yct yB yD84) xMT xFT xSTX xm98 yD_85.2.1 yD_85.2.2.1 6000 = true := by decide +kernel
theorem yc_85 : ychks yKD yB xMT xFT xSTX yD85 = true := ychks_cons (d := yD_85) (L := yD84) (M := xm98) rfl yk_85 yc_84
-- IceBoats.knownOf
def yD86 : List YD := yD_86 :: yD85
theorem yk_86 : ychk yKD (yct yB yD85) xMT xFT xSTX xm97 yD_86.2.1 yD_86.2.2.1 6000 = true := by decide +kernel
theorem yc_86 : ychks yKD yB xMT xFT xSTX yD86 = true := ychks_cons (d := yD_86) (L := yD85) (M := xm97) rfl yk_86 yc_85
-- IceBoats.knownOfKnown
def yD87 : List YD := yD_87 :: yD86
theorem yk_87 : ychk yKD (yct yB yD86) xMT xFT xSTX xm99 yD_87.2.1 yD_87.2.2.1 6000 = true := by decide +kernel
theorem yc_87 : ychks yKD yB xMT xFT xSTX yD87 = true := ychks_cons (d := yD_87) (L := yD86) (M := xm99) rfl yk_87 yc_86
-- IceBoats.knows
def yD88 : List YD := yD_88 :: yD87
theorem yk_88 : ychk yKD (yct yB yD87) xMT xFT xSTX xm94 yD_88.2.1 yD_88.2.2.1 6000 = true := by decide +kernel
theorem yc_88 : ychks yKD yB xMT xFT xSTX yD88 = true := ychks_cons (d := yD_88) (L := yD87) (M := xm94) rfl yk_88 yc_87
-- IceBoats.laterOrNone
def yD89 : List YD := yD_89 :: yD88
theorem yk_89 : ychk yKD (yct yB yD88) xMT xFT xSTX xm102 yD_89.2.1 yD_89.2.2.1 6000 = true := by decide +kernel
theorem yc_89 : ychks yKD yB xMT xFT xSTX yD89 = true := ychks_cons (d := yD_89) (L := yD88) (M := xm102) rfl yk_89 yc_88
-- IceBoats.knownOfAll
def yD90 : List YD := yD_90 :: yD89
theorem yk_90 : ychk yKD (yct yB yD89) xMT xFT xSTX xm101 yD_90.2.1 yD_90.2.2.1 6000 = true := by decide +kernel
theorem yc_90 : ychks yKD yB xMT xFT xSTX yD90 = true := ychks_cons (d := yD_90) (L := yD89) (M := xm101) rfl yk_90 yc_89
-- IceBoats.allKnow
def yD91 : List YD := yD_91 :: yD90
theorem yk_91 : ychk yKD (yct yB yD90) xMT xFT xSTX xm100 yD_91.2.1 yD_91.2.2.1 6000 = true := by decide +kernel
theorem yc_91 : ychks yKD yB xMT xFT xSTX yD91 = true := ychks_cons (d := yD_91) (L := yD90) (M := xm100) rfl yk_91 yc_90
-- IceBoats$RuleReader.letterOf
def yD92 : List YD := yD_92 :: yD91
theorem yk_92 : ychk yKD (yct yB yD91) xMT xFT xSTX xm105 yD_92.2.1 yD_92.2.2.1 6000 = true := by decide +kernel
theorem yc_92 : ychks yKD yB xMT xFT xSTX yD92 = true := ychks_cons (d := yD_92) (L := yD91) (M := xm105) rfl yk_92 yc_91
-- IceBoats$RuleReader.endOfDigits
def yD93 : List YD := yD_93 :: yD92
theorem yk_93 : ychk yKD (yct yB yD92) xMT xFT xSTX xm106 yD_93.2.1 yD_93.2.2.1 6000 = true := by decide +kernel
theorem yc_93 : ychks yKD yB xMT xFT xSTX yD93 = true := ychks_cons (d := yD_93) (L := yD92) (M := xm106) rfl yk_93 yc_92
-- IceBoats$RuleReader.numberIn
def yD94 : List YD := yD_94 :: yD93
theorem yk_94 : ychk yKD (yct yB yD93) xMT xFT xSTX xm107 yD_94.2.1 yD_94.2.2.1 6000 = true := by decide +kernel
theorem yc_94 : ychks yKD yB xMT xFT xSTX yD94 = true := ychks_cons (d := yD_94) (L := yD93) (M := xm107) rfl yk_94 yc_93
-- IceBoats$RuleReader.readRules
def yD95 : List YD := yD_95 :: yD94
theorem yk_95 : ychk yKD (yct yB yD94) xMT xFT xSTX xm104 yD_95.2.1 yD_95.2.2.1 6000 = true := by decide +kernel
theorem yc_95 : ychks yKD yB xMT xFT xSTX yD95 = true := ychks_cons (d := yD_95) (L := yD94) (M := xm104) rfl yk_95 yc_94
-- IceBoats.fault
def yD96 : List YD := yD_96 :: yD95
theorem yk_96 : ychk yKD (yct yB yD95) xMT xFT xSTX xm103 yD_96.2.1 yD_96.2.2.1 6000 = true := by decide +kernel
theorem yc_96 : ychks yKD yB xMT xFT xSTX yD96 = true := ychks_cons (d := yD_96) (L := yD95) (M := xm103) rfl yk_96 yc_95
-- IceBoats.rules
def yD97 : List YD := yD_97 :: yD96
theorem yk_97 : ychk yKD (yct yB yD96) xMT xFT xSTX xm108 yD_97.2.1 yD_97.2.2.1 6000 = true := by decide +kernel
theorem yc_97 : ychks yKD yB xMT xFT xSTX yD97 = true := ychks_cons (d := yD_97) (L := yD96) (M := xm108) rfl yk_97 yc_96
-- IceBoats.rule
def yD98 : List YD := yD_98 :: yD97
theorem yk_98 : ychk yKD (yct yB yD97) xMT xFT xSTX xm109 yD_98.2.1 yD_98.2.2.1 6000 = true := by decide +kernel
theorem yc_98 : ychks yKD yB xMT xFT xSTX yD98 = true := ychks_cons (d := yD_98) (L := yD97) (M := xm109) rfl yk_98 yc_97
-- IceBoats.isDueNow
def yD99 : List YD := yD_99 :: yD98
theorem yk_99 : ychk yKD (yct yB yD98) xMT xFT xSTX xm111 yD_99.2.1 yD_99.2.2.1 6000 = true := by decide +kernel
theorem yc_99 : ychks yKD yB xMT xFT xSTX yD99 = true := ychks_cons (d := yD_99) (L := yD98) (M := xm111) rfl yk_99 yc_98
-- IceBoats.asks
def yD100 : List YD := yD_100 :: yD99
theorem yk_100 : ychk yKD (yct yB yD99) xMT xFT xSTX xm110 yD_100.2.1 yD_100.2.2.1 6000 = true := by decide +kernel
theorem yc_100 : ychks yKD yB xMT xFT xSTX yD100 = true := ychks_cons (d := yD_100) (L := yD99) (M := xm110) rfl yk_100 yc_99
-- IceBoats.isMap
def yD101 : List YD := yD_101 :: yD100
theorem yk_101 : ychk yKD (yct yB yD100) xMT xFT xSTX xm113 yD_101.2.1 yD_101.2.2.1 6000 = true := by decide +kernel
theorem yc_101 : ychks yKD yB xMT xFT xSTX yD101 = true := ychks_cons (d := yD_101) (L := yD100) (M := xm113) rfl yk_101 yc_100
-- IceBoats.alikePlaces
def yD102 : List YD := yD_102 :: yD101
theorem yk_102 : ychk yKD (yct yB yD101) xMT xFT xSTX xm114 yD_102.2.1 yD_102.2.2.1 6000 = true := by decide +kernel
theorem yc_102 : ychks yKD yB xMT xFT xSTX yD102 = true := ychks_cons (d := yD_102) (L := yD101) (M := xm114) rfl yk_102 yc_101
-- IceBoats.shifts
def yD103 : List YD := yD_103 :: yD102
theorem yk_103 : ychk yKD (yct yB yD102) xMT xFT xSTX xm112 yD_103.2.1 yD_103.2.2.1 6000 = true := by decide +kernel
theorem yc_103 : ychks yKD yB xMT xFT xSTX yD103 = true := ychks_cons (d := yD_103) (L := yD102) (M := xm112) rfl yk_103 yc_102
-- IceBoats.mapped
def yD104 : List YD := yD_104 :: yD103
theorem yk_104 : ychk yKD (yct yB yD103) xMT xFT xSTX xm115 yD_104.2.1 yD_104.2.2.1 6000 = true := by decide +kernel
theorem yc_104 : ychks yKD yB xMT xFT xSTX yD104 = true := ychks_cons (d := yD_104) (L := yD103) (M := xm115) rfl yk_104 yc_103
-- java/lang/Integer.bitCount
def yD105 : List YD := yD_105 :: yD104
theorem yk_105 : ychk yKD (yct yB yD104) xMT xFT xSTX xm117 yD_105.2.1 yD_105.2.2.1 6000 = true := by decide +kernel
theorem yc_105 : ychks yKD yB xMT xFT xSTX yD105 = true := ychks_cons (d := yD_105) (L := yD104) (M := xm117) rfl yk_105 yc_104
-- IceBoats.areWays
def yD106 : List YD := yD_106 :: yD105
theorem yk_106 : ychk yKD (yct yB yD105) xMT xFT xSTX xm120 yD_106.2.1 yD_106.2.2.1 6000 = true := by decide +kernel
theorem yc_106 : ychks yKD yB xMT xFT xSTX yD106 = true := ychks_cons (d := yD_106) (L := yD105) (M := xm120) rfl yk_106 yc_105
-- IceBoats.faultOfWays
def yD107 : List YD := yD_107 :: yD106
theorem yk_107 : ychk yKD (yct yB yD106) xMT xFT xSTX xm119 yD_107.2.1 yD_107.2.2.1 6000 = true := by decide +kernel
theorem yc_107 : ychks yKD yB xMT xFT xSTX yD107 = true := ychks_cons (d := yD_107) (L := yD106) (M := xm119) rfl yk_107 yc_106
-- IceBoats.faultOfPlanRows
def yD108 : List YD := yD_108 :: yD107
theorem yk_108 : ychk yKD (yct yB yD107) xMT xFT xSTX xm118 yD_108.2.1 yD_108.2.2.1 6000 = true := by decide +kernel
theorem yc_108 : ychks yKD yB xMT xFT xSTX yD108 = true := ychks_cons (d := yD_108) (L := yD107) (M := xm118) rfl yk_108 yc_107
-- IceBoats$Planner.forget
def yD109 : List YD := yD_109 :: yD108
theorem yk_109 : ychk yKD (yct yB yD108) xMT xFT xSTX xm121 yD_109.2.1 yD_109.2.2.1 6000 = true := by decide +kernel
theorem yc_109 : ychks yKD yB xMT xFT xSTX yD109 = true := ychks_cons (d := yD_109) (L := yD108) (M := xm121) rfl yk_109 yc_108
-- IceBoats.powerFor
def yD110 : List YD := yD_110 :: yD109
theorem yk_110 : ychk yKD (yct yB yD109) xMT xFT xSTX xm123 yD_110.2.1 yD_110.2.2.1 6000 = true := by decide +kernel
theorem yc_110 : ychks yKD yB xMT xFT xSTX yD110 = true := ychks_cons (d := yD_110) (L := yD109) (M := xm123) rfl yk_110 yc_109
-- IceBoats$Sea.cellsOnTheWay
def yD111 : List YD := yD_111 :: yD110
theorem yk_111 : ychk yKD (yct yB yD110) xMT xFT xSTX xm124 yD_111.2.1 yD_111.2.2.1 6000 = true := by decide +kernel
theorem yc_111 : ychks yKD yB xMT xFT xSTX yD111 = true := ychks_cons (d := yD_111) (L := yD110) (M := xm124) rfl yk_111 yc_110
-- IceBoats$Planner.offer
def yD112 : List YD := yD_112 :: yD111
theorem yk_112 : ychk yKD (yct yB yD111) xMT xFT xSTX xm125 yD_112.2.1 yD_112.2.2.1 6000 = true := by decide +kernel
theorem yc_112 : ychks yKD yB xMT xFT xSTX yD112 = true := ychks_cons (d := yD_112) (L := yD111) (M := xm125) rfl yk_112 yc_111
-- IceBoats.offerRows
def yD113 : List YD := yD_113 :: yD112
theorem yk_113 : ychk yKD (yct yB yD112) xMT xFT xSTX xm122 yD_113.2.1 yD_113.2.2.1 6000 = true := by decide +kernel
theorem yc_113 : ychks yKD yB xMT xFT xSTX yD113 = true := ychks_cons (d := yD_113) (L := yD112) (M := xm122) rfl yk_113 yc_112
-- IceBoats$Planner.weigh
def yD114 : List YD := yD_114 :: yD113
theorem yk_114 : ychk yKD (yct yB yD113) xMT xFT xSTX xm127 yD_114.2.1 yD_114.2.2.1 6000 = true := by decide +kernel
theorem yc_114 : ychks yKD yB xMT xFT xSTX yD114 = true := ychks_cons (d := yD_114) (L := yD113) (M := xm127) rfl yk_114 yc_113
-- IceBoats$Planner.choose
def yD115 : List YD := yD_115 :: yD114
theorem yk_115 : ychk yKD (yct yB yD114) xMT xFT xSTX xm126 yD_115.2.1 yD_115.2.2.1 6000 = true := by decide +kernel
theorem yc_115 : ychks yKD yB xMT xFT xSTX yD115 = true := ychks_cons (d := yD_115) (L := yD114) (M := xm126) rfl yk_115 yc_114
-- IceBoats.plan
def yD116 : List YD := yD_116 :: yD115
theorem yk_116 : ychk yKD (yct yB yD115) xMT xFT xSTX xm116 yD_116.2.1 yD_116.2.2.1 6000 = true := by decide +kernel
theorem yc_116 : ychks yKD yB xMT xFT xSTX yD116 = true := ychks_cons (d := yD_116) (L := yD115) (M := xm116) rfl yk_116 yc_115
-- java/lang/Integer.bitCount
def yD117 : List YD := yD_117 :: yD116
theorem yk_117 : ychk yKD (yct yB yD116) xMT xFT xSTX xm117 yD_117.2.1 yD_117.2.2.1 6000 = true := by decide +kernel
theorem yc_117 : ychks yKD yB xMT xFT xSTX yD117 = true := ychks_cons (d := yD_117) (L := yD116) (M := xm117) rfl yk_117 yc_116
-- IceBoats.offerRows
def yD118 : List YD := yD_118 :: yD117
theorem yk_118 : ychk yKD (yct yB yD117) xMT xFT xSTX xm122 yD_118.2.1 yD_118.2.2.1 6000 = true := by decide +kernel
theorem yc_118 : ychks yKD yB xMT xFT xSTX yD118 = true := ychks_cons (d := yD_118) (L := yD117) (M := xm122) rfl yk_118 yc_117
-- IceBoats.plan
def yD119 : List YD := yD_119 :: yD118
theorem yk_119 : ychk yKD (yct yB yD118) xMT xFT xSTX xm116 yD_119.2.1 yD_119.2.2.1 6000 = true := by decide +kernel
theorem yc_119 : ychks yKD yB xMT xFT xSTX yD119 = true := ychks_cons (d := yD_119) (L := yD118) (M := xm116) rfl yk_119 yc_118
-- java/lang/Integer.bitCount
def yD120 : List YD := yD_120 :: yD119
theorem yk_120 : ychk yKD (yct yB yD119) xMT xFT xSTX xm117 yD_120.2.1 yD_120.2.2.1 6000 = true := by decide +kernel
theorem yc_120 : ychks yKD yB xMT xFT xSTX yD120 = true := ychks_cons (d := yD_120) (L := yD119) (M := xm117) rfl yk_120 yc_119
-- IceBoats$Planner.offer
def yD121 : List YD := yD_121 :: yD120
theorem yk_121 : ychk yKD (yct yB yD120) xMT xFT xSTX xm125 yD_121.2.1 yD_121.2.2.1 6000 = true := by decide +kernel
theorem yc_121 : ychks yKD yB xMT xFT xSTX yD121 = true := ychks_cons (d := yD_121) (L := yD120) (M := xm125) rfl yk_121 yc_120
-- IceBoats.offerRows
def yD122 : List YD := yD_122 :: yD121
theorem yk_122 : ychk yKD (yct yB yD121) xMT xFT xSTX xm122 yD_122.2.1 yD_122.2.2.1 6000 = true := by decide +kernel
theorem yc_122 : ychks yKD yB xMT xFT xSTX yD122 = true := ychks_cons (d := yD_122) (L := yD121) (M := xm122) rfl yk_122 yc_121
-- IceBoats.plan
def yD123 : List YD := yD_123 :: yD122
theorem yk_123 : ychk yKD (yct yB yD122) xMT xFT xSTX xm116 yD_123.2.1 yD_123.2.2.1 6000 = true := by decide +kernel
theorem yc_123 : ychks yKD yB xMT xFT xSTX yD123 = true := ychks_cons (d := yD_123) (L := yD122) (M := xm116) rfl yk_123 yc_122
-- java/lang/Integer.bitCount
def yD124 : List YD := yD_124 :: yD123
theorem yk_124 : ychk yKD (yct yB yD123) xMT xFT xSTX xm117 yD_124.2.1 yD_124.2.2.1 6000 = true := by decide +kernel
theorem yc_124 : ychks yKD yB xMT xFT xSTX yD124 = true := ychks_cons (d := yD_124) (L := yD123) (M := xm117) rfl yk_124 yc_123
-- IceBoats.plan
def yD125 : List YD := yD_125 :: yD124
theorem yk_125 : ychk yKD (yct yB yD124) xMT xFT xSTX xm116 yD_125.2.1 yD_125.2.2.1 6000 = true := by decide +kernel
theorem yc_125 : ychks yKD yB xMT xFT xSTX yD125 = true := ychks_cons (d := yD_125) (L := yD124) (M := xm116) rfl yk_125 yc_124
-- java/lang/Integer.bitCount
def yD126 : List YD := yD_126 :: yD125
theorem yk_126 : ychk yKD (yct yB yD125) xMT xFT xSTX xm117 yD_126.2.1 yD_126.2.2.1 6000 = true := by decide +kernel
theorem yc_126 : ychks yKD yB xMT xFT xSTX yD126 = true := ychks_cons (d := yD_126) (L := yD125) (M := xm117) rfl yk_126 yc_125
-- IceBoats.plan
def yD127 : List YD := yD_127 :: yD126
theorem yk_127 : ychk yKD (yct yB yD126) xMT xFT xSTX xm116 yD_127.2.1 yD_127.2.2.1 6000 = true := by decide +kernel
theorem yc_127 : ychks yKD yB xMT xFT xSTX yD127 = true := ychks_cons (d := yD_127) (L := yD126) (M := xm116) rfl yk_127 yc_126
-- java/lang/Integer.bitCount
def yD128 : List YD := yD_128 :: yD127
theorem yk_128 : ychk yKD (yct yB yD127) xMT xFT xSTX xm117 yD_128.2.1 yD_128.2.2.1 6000 = true := by decide +kernel
theorem yc_128 : ychks yKD yB xMT xFT xSTX yD128 = true := ychks_cons (d := yD_128) (L := yD127) (M := xm117) rfl yk_128 yc_127
-- IceBoats.plan
def yD129 : List YD := yD_129 :: yD128
theorem yk_129 : ychk yKD (yct yB yD128) xMT xFT xSTX xm116 yD_129.2.1 yD_129.2.2.1 6000 = true := by decide +kernel
theorem yc_129 : ychks yKD yB xMT xFT xSTX yD129 = true := ychks_cons (d := yD_129) (L := yD128) (M := xm116) rfl yk_129 yc_128
-- java/lang/Integer.bitCount
def yD130 : List YD := yD_130 :: yD129
theorem yk_130 : ychk yKD (yct yB yD129) xMT xFT xSTX xm117 yD_130.2.1 yD_130.2.2.1 6000 = true := by decide +kernel
theorem yc_130 : ychks yKD yB xMT xFT xSTX yD130 = true := ychks_cons (d := yD_130) (L := yD129) (M := xm117) rfl yk_130 yc_129
-- IceBoats.plan
def yD131 : List YD := yD_131 :: yD130
theorem yk_131 : ychk yKD (yct yB yD130) xMT xFT xSTX xm116 yD_131.2.1 yD_131.2.2.1 6000 = true := by decide +kernel
theorem yc_131 : ychks yKD yB xMT xFT xSTX yD131 = true := ychks_cons (d := yD_131) (L := yD130) (M := xm116) rfl yk_131 yc_130
-- java/lang/Integer.bitCount
def yD132 : List YD := yD_132 :: yD131
theorem yk_132 : ychk yKD (yct yB yD131) xMT xFT xSTX xm117 yD_132.2.1 yD_132.2.2.1 6000 = true := by decide +kernel
theorem yc_132 : ychks yKD yB xMT xFT xSTX yD132 = true := ychks_cons (d := yD_132) (L := yD131) (M := xm117) rfl yk_132 yc_131
-- IceBoats.plan
def yD133 : List YD := yD_133 :: yD132
theorem yk_133 : ychk yKD (yct yB yD132) xMT xFT xSTX xm116 yD_133.2.1 yD_133.2.2.1 6000 = true := by decide +kernel
theorem yc_133 : ychks yKD yB xMT xFT xSTX yD133 = true := ychks_cons (d := yD_133) (L := yD132) (M := xm116) rfl yk_133 yc_132
-- java/lang/Integer.bitCount
def yD134 : List YD := yD_134 :: yD133
theorem yk_134 : ychk yKD (yct yB yD133) xMT xFT xSTX xm117 yD_134.2.1 yD_134.2.2.1 6000 = true := by decide +kernel
theorem yc_134 : ychks yKD yB xMT xFT xSTX yD134 = true := ychks_cons (d := yD_134) (L := yD133) (M := xm117) rfl yk_134 yc_133
-- IceBoats.plan
def yD135 : List YD := yD_135 :: yD134
theorem yk_135 : ychk yKD (yct yB yD134) xMT xFT xSTX xm116 yD_135.2.1 yD_135.2.2.1 6000 = true := by decide +kernel
theorem yc_135 : ychks yKD yB xMT xFT xSTX yD135 = true := ychks_cons (d := yD_135) (L := yD134) (M := xm116) rfl yk_135 yc_134
-- java/lang/Integer.bitCount
def yD136 : List YD := yD_136 :: yD135
theorem yk_136 : ychk yKD (yct yB yD135) xMT xFT xSTX xm117 yD_136.2.1 yD_136.2.2.1 6000 = true := by decide +kernel
theorem yc_136 : ychks yKD yB xMT xFT xSTX yD136 = true := ychks_cons (d := yD_136) (L := yD135) (M := xm117) rfl yk_136 yc_135
-- IceBoats.plan
def yD137 : List YD := yD_137 :: yD136
theorem yk_137 : ychk yKD (yct yB yD136) xMT xFT xSTX xm116 yD_137.2.1 yD_137.2.2.1 6000 = true := by decide +kernel
theorem yc_137 : ychks yKD yB xMT xFT xSTX yD137 = true := ychks_cons (d := yD_137) (L := yD136) (M := xm116) rfl yk_137 yc_136
-- java/lang/Integer.bitCount
def yD138 : List YD := yD_138 :: yD137
theorem yk_138 : ychk yKD (yct yB yD137) xMT xFT xSTX xm117 yD_138.2.1 yD_138.2.2.1 6000 = true := by decide +kernel
theorem yc_138 : ychks yKD yB xMT xFT xSTX yD138 = true := ychks_cons (d := yD_138) (L := yD137) (M := xm117) rfl yk_138 yc_137
-- IceBoats.plan
def yD139 : List YD := yD_139 :: yD138
theorem yk_139 : ychk yKD (yct yB yD138) xMT xFT xSTX xm116 yD_139.2.1 yD_139.2.2.1 6000 = true := by decide +kernel
theorem yc_139 : ychks yKD yB xMT xFT xSTX yD139 = true := ychks_cons (d := yD_139) (L := yD138) (M := xm116) rfl yk_139 yc_138
-- java/lang/Integer.bitCount
def yD140 : List YD := yD_140 :: yD139
theorem yk_140 : ychk yKD (yct yB yD139) xMT xFT xSTX xm117 yD_140.2.1 yD_140.2.2.1 6000 = true := by decide +kernel
theorem yc_140 : ychks yKD yB xMT xFT xSTX yD140 = true := ychks_cons (d := yD_140) (L := yD139) (M := xm117) rfl yk_140 yc_139
-- IceBoats.plan
def yD141 : List YD := yD_141 :: yD140
theorem yk_141 : ychk yKD (yct yB yD140) xMT xFT xSTX xm116 yD_141.2.1 yD_141.2.2.1 6000 = true := by decide +kernel
theorem yc_141 : ychks yKD yB xMT xFT xSTX yD141 = true := ychks_cons (d := yD_141) (L := yD140) (M := xm116) rfl yk_141 yc_140
-- java/lang/Integer.bitCount
def yD142 : List YD := yD_142 :: yD141
theorem yk_142 : ychk yKD (yct yB yD141) xMT xFT xSTX xm117 yD_142.2.1 yD_142.2.2.1 6000 = true := by decide +kernel
theorem yc_142 : ychks yKD yB xMT xFT xSTX yD142 = true := ychks_cons (d := yD_142) (L := yD141) (M := xm117) rfl yk_142 yc_141
-- IceBoats.plan
def yD143 : List YD := yD_143 :: yD142
theorem yk_143 : ychk yKD (yct yB yD142) xMT xFT xSTX xm116 yD_143.2.1 yD_143.2.2.1 6000 = true := by decide +kernel
theorem yc_143 : ychks yKD yB xMT xFT xSTX yD143 = true := ychks_cons (d := yD_143) (L := yD142) (M := xm116) rfl yk_143 yc_142
-- java/lang/Integer.bitCount
def yD144 : List YD := yD_144 :: yD143
theorem yk_144 : ychk yKD (yct yB yD143) xMT xFT xSTX xm117 yD_144.2.1 yD_144.2.2.1 6000 = true := by decide +kernel
theorem yc_144 : ychks yKD yB xMT xFT xSTX yD144 = true := ychks_cons (d := yD_144) (L := yD143) (M := xm117) rfl yk_144 yc_143
-- IceBoats.plan
def yD145 : List YD := yD_145 :: yD144
theorem yk_145 : ychk yKD (yct yB yD144) xMT xFT xSTX xm116 yD_145.2.1 yD_145.2.2.1 6000 = true := by decide +kernel
theorem yc_145 : ychks yKD yB xMT xFT xSTX yD145 = true := ychks_cons (d := yD_145) (L := yD144) (M := xm116) rfl yk_145 yc_144
-- java/lang/Integer.bitCount
def yD146 : List YD := yD_146 :: yD145
theorem yk_146 : ychk yKD (yct yB yD145) xMT xFT xSTX xm117 yD_146.2.1 yD_146.2.2.1 6000 = true := by decide +kernel
theorem yc_146 : ychks yKD yB xMT xFT xSTX yD146 = true := ychks_cons (d := yD_146) (L := yD145) (M := xm117) rfl yk_146 yc_145
-- IceBoats.plan
def yD147 : List YD := yD_147 :: yD146
theorem yk_147 : ychk yKD (yct yB yD146) xMT xFT xSTX xm116 yD_147.2.1 yD_147.2.2.1 6000 = true := by decide +kernel
theorem yc_147 : ychks yKD yB xMT xFT xSTX yD147 = true := ychks_cons (d := yD_147) (L := yD146) (M := xm116) rfl yk_147 yc_146
-- java/lang/Integer.bitCount
def yD148 : List YD := yD_148 :: yD147
theorem yk_148 : ychk yKD (yct yB yD147) xMT xFT xSTX xm117 yD_148.2.1 yD_148.2.2.1 6000 = true := by decide +kernel
theorem yc_148 : ychks yKD yB xMT xFT xSTX yD148 = true := ychks_cons (d := yD_148) (L := yD147) (M := xm117) rfl yk_148 yc_147
-- IceBoats.plan
def yD149 : List YD := yD_149 :: yD148
theorem yk_149 : ychk yKD (yct yB yD148) xMT xFT xSTX xm116 yD_149.2.1 yD_149.2.2.1 6000 = true := by decide +kernel
theorem yc_149 : ychks yKD yB xMT xFT xSTX yD149 = true := ychks_cons (d := yD_149) (L := yD148) (M := xm116) rfl yk_149 yc_148
-- java/lang/Integer.bitCount
def yD150 : List YD := yD_150 :: yD149
theorem yk_150 : ychk yKD (yct yB yD149) xMT xFT xSTX xm117 yD_150.2.1 yD_150.2.2.1 6000 = true := by decide +kernel
theorem yc_150 : ychks yKD yB xMT xFT xSTX yD150 = true := ychks_cons (d := yD_150) (L := yD149) (M := xm117) rfl yk_150 yc_149
-- IceBoats.plan
def yD151 : List YD := yD_151 :: yD150
theorem yk_151 : ychk yKD (yct yB yD150) xMT xFT xSTX xm116 yD_151.2.1 yD_151.2.2.1 6000 = true := by decide +kernel
theorem yc_151 : ychks yKD yB xMT xFT xSTX yD151 = true := ychks_cons (d := yD_151) (L := yD150) (M := xm116) rfl yk_151 yc_150
-- java/lang/Integer.bitCount
def yD152 : List YD := yD_152 :: yD151
theorem yk_152 : ychk yKD (yct yB yD151) xMT xFT xSTX xm117 yD_152.2.1 yD_152.2.2.1 6000 = true := by decide +kernel
theorem yc_152 : ychks yKD yB xMT xFT xSTX yD152 = true := ychks_cons (d := yD_152) (L := yD151) (M := xm117) rfl yk_152 yc_151
-- IceBoats.plan
def yD153 : List YD := yD_153 :: yD152
theorem yk_153 : ychk yKD (yct yB yD152) xMT xFT xSTX xm116 yD_153.2.1 yD_153.2.2.1 6000 = true := by decide +kernel
theorem yc_153 : ychks yKD yB xMT xFT xSTX yD153 = true := ychks_cons (d := yD_153) (L := yD152) (M := xm116) rfl yk_153 yc_152
-- java/lang/Integer.bitCount
def yD154 : List YD := yD_154 :: yD153
theorem yk_154 : ychk yKD (yct yB yD153) xMT xFT xSTX xm117 yD_154.2.1 yD_154.2.2.1 6000 = true := by decide +kernel
theorem yc_154 : ychks yKD yB xMT xFT xSTX yD154 = true := ychks_cons (d := yD_154) (L := yD153) (M := xm117) rfl yk_154 yc_153
-- IceBoats.plan
def yD155 : List YD := yD_155 :: yD154
theorem yk_155 : ychk yKD (yct yB yD154) xMT xFT xSTX xm116 yD_155.2.1 yD_155.2.2.1 6000 = true := by decide +kernel
theorem yc_155 : ychks yKD yB xMT xFT xSTX yD155 = true := ychks_cons (d := yD_155) (L := yD154) (M := xm116) rfl yk_155 yc_154
-- java/lang/Integer.bitCount
def yD156 : List YD := yD_156 :: yD155
theorem yk_156 : ychk yKD (yct yB yD155) xMT xFT xSTX xm117 yD_156.2.1 yD_156.2.2.1 6000 = true := by decide +kernel
theorem yc_156 : ychks yKD yB xMT xFT xSTX yD156 = true := ychks_cons (d := yD_156) (L := yD155) (M := xm117) rfl yk_156 yc_155
-- IceBoats.plan
def yD157 : List YD := yD_157 :: yD156
theorem yk_157 : ychk yKD (yct yB yD156) xMT xFT xSTX xm116 yD_157.2.1 yD_157.2.2.1 6000 = true := by decide +kernel
theorem yc_157 : ychks yKD yB xMT xFT xSTX yD157 = true := ychks_cons (d := yD_157) (L := yD156) (M := xm116) rfl yk_157 yc_156
-- java/lang/Integer.bitCount
def yD158 : List YD := yD_158 :: yD157
theorem yk_158 : ychk yKD (yct yB yD157) xMT xFT xSTX xm117 yD_158.2.1 yD_158.2.2.1 6000 = true := by decide +kernel
theorem yc_158 : ychks yKD yB xMT xFT xSTX yD158 = true := ychks_cons (d := yD_158) (L := yD157) (M := xm117) rfl yk_158 yc_157
-- IceBoats.plan
def yD159 : List YD := yD_159 :: yD158
theorem yk_159 : ychk yKD (yct yB yD158) xMT xFT xSTX xm116 yD_159.2.1 yD_159.2.2.1 6000 = true := by decide +kernel
theorem yc_159 : ychks yKD yB xMT xFT xSTX yD159 = true := ychks_cons (d := yD_159) (L := yD158) (M := xm116) rfl yk_159 yc_158
-- java/lang/Integer.bitCount
def yD160 : List YD := yD_160 :: yD159
theorem yk_160 : ychk yKD (yct yB yD159) xMT xFT xSTX xm117 yD_160.2.1 yD_160.2.2.1 6000 = true := by decide +kernel
theorem yc_160 : ychks yKD yB xMT xFT xSTX yD160 = true := ychks_cons (d := yD_160) (L := yD159) (M := xm117) rfl yk_160 yc_159
-- IceBoats.plan
def yD161 : List YD := yD_161 :: yD160
theorem yk_161 : ychk yKD (yct yB yD160) xMT xFT xSTX xm116 yD_161.2.1 yD_161.2.2.1 6000 = true := by decide +kernel
theorem yc_161 : ychks yKD yB xMT xFT xSTX yD161 = true := ychks_cons (d := yD_161) (L := yD160) (M := xm116) rfl yk_161 yc_160
-- java/lang/Integer.bitCount
def yD162 : List YD := yD_162 :: yD161
theorem yk_162 : ychk yKD (yct yB yD161) xMT xFT xSTX xm117 yD_162.2.1 yD_162.2.2.1 6000 = true := by decide +kernel
theorem yc_162 : ychks yKD yB xMT xFT xSTX yD162 = true := ychks_cons (d := yD_162) (L := yD161) (M := xm117) rfl yk_162 yc_161
-- IceBoats.plan
def yD163 : List YD := yD_163 :: yD162
theorem yk_163 : ychk yKD (yct yB yD162) xMT xFT xSTX xm116 yD_163.2.1 yD_163.2.2.1 6000 = true := by decide +kernel
theorem yc_163 : ychks yKD yB xMT xFT xSTX yD163 = true := ychks_cons (d := yD_163) (L := yD162) (M := xm116) rfl yk_163 yc_162
-- java/lang/Integer.bitCount
def yD164 : List YD := yD_164 :: yD163
theorem yk_164 : ychk yKD (yct yB yD163) xMT xFT xSTX xm117 yD_164.2.1 yD_164.2.2.1 6000 = true := by decide +kernel
theorem yc_164 : ychks yKD yB xMT xFT xSTX yD164 = true := ychks_cons (d := yD_164) (L := yD163) (M := xm117) rfl yk_164 yc_163
-- IceBoats.plan
def yD165 : List YD := yD_165 :: yD164
theorem yk_165 : ychk yKD (yct yB yD164) xMT xFT xSTX xm116 yD_165.2.1 yD_165.2.2.1 6000 = true := by decide +kernel
theorem yc_165 : ychks yKD yB xMT xFT xSTX yD165 = true := ychks_cons (d := yD_165) (L := yD164) (M := xm116) rfl yk_165 yc_164
-- java/lang/Integer.bitCount
def yD166 : List YD := yD_166 :: yD165
theorem yk_166 : ychk yKD (yct yB yD165) xMT xFT xSTX xm117 yD_166.2.1 yD_166.2.2.1 6000 = true := by decide +kernel
theorem yc_166 : ychks yKD yB xMT xFT xSTX yD166 = true := ychks_cons (d := yD_166) (L := yD165) (M := xm117) rfl yk_166 yc_165
-- IceBoats.plan
def yD167 : List YD := yD_167 :: yD166
theorem yk_167 : ychk yKD (yct yB yD166) xMT xFT xSTX xm116 yD_167.2.1 yD_167.2.2.1 6000 = true := by decide +kernel
theorem yc_167 : ychks yKD yB xMT xFT xSTX yD167 = true := ychks_cons (d := yD_167) (L := yD166) (M := xm116) rfl yk_167 yc_166
-- java/lang/Integer.bitCount
def yD168 : List YD := yD_168 :: yD167
theorem yk_168 : ychk yKD (yct yB yD167) xMT xFT xSTX xm117 yD_168.2.1 yD_168.2.2.1 6000 = true := by decide +kernel
theorem yc_168 : ychks yKD yB xMT xFT xSTX yD168 = true := ychks_cons (d := yD_168) (L := yD167) (M := xm117) rfl yk_168 yc_167
