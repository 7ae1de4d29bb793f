/-! ===== words of the tables, by their places ===== -/
theorem x_memL {L : List (Nat × Cond)} (h : L.all (fun q => decide (lw_tbl[q.1]? = some q.2) && goodWord q.2) = true) (n : Nat) {i : Nat} {w : Cond} (hn : L[n]? = some (i, w)) : w ∈ xTs := by
  have h1 := List.all_eq_true.mp h _ (List.mem_of_getElem? hn)
  rw [Bool.and_eq_true] at h1
  exact x_mem i (of_decide_eq_true h1.1) h1.2
def xWl_0 : List (Nat × Cond) := [(96, Cond.methodLink RX9 3 Lib.objectInit),
  (99, Cond.classLink RX9 9 "IceBoats$Row"),
  (282, Cond.fieldLink RX9 11 "IceBoats" "rows" "[LIceBoats$Row;"),
  (283, Cond.fieldLink RX9 15 "IceBoats" "texts" "[LIceBoats$Row;"),
  (101, Cond.classLink RX9 18 RX6),
  (102, Cond.instantiable RX6 8),
  (77, Cond.initialized RX6),
  (103, Cond.methodLink RX9 20 yX6_init),
  (104, Cond.instanceMethod yX6_init),
  (105, Cond.code yX6_init cX6_init 2 none),
  (284, Cond.fieldLink RX9 21 "IceBoats" "waters" "LIceBoats$Sea;"),
  (154, Cond.classLink RX9 25 "IceBoats$Boat"),
  (285, Cond.fieldLink RX9 27 "IceBoats" "fleet" "[LIceBoats$Boat;"),
  (156, Cond.classLink RX9 31 "IceBoats$Word"),
  (286, Cond.fieldLink RX9 33 "IceBoats" "words" "[LIceBoats$Word;"),
  (158, Cond.classLink RX9 37 "IceBoats$Look"),
  (287, Cond.fieldLink RX9 39 "IceBoats" "looks" "[LIceBoats$Look;"),
  (160, Cond.classLink RX9 43 RX5),
  (161, Cond.instantiable RX5 1),
  (79, Cond.initialized RX5),
  (163, Cond.instanceMethod yX5_init),
  (164, Cond.code yX5_init cX5_init 1 none),
  (288, Cond.fieldLink RX9 46 "IceBoats" "reader" "LIceBoats$RuleReader;"),
  (171, Cond.classLink RX9 50 RX3),
  (172, Cond.instantiable RX3 4),
  (80, Cond.initialized RX3),
  (174, Cond.instanceMethod yX3_init),
  (175, Cond.code yX3_init cX3_init 1 none),
  (289, Cond.fieldLink RX9 53 "IceBoats" "planner" "LIceBoats$Planner;"),
  (193, Cond.classLink RX9 57 RX1),
  (194, Cond.instantiable RX1 4),
  (81, Cond.initialized RX1),
  (196, Cond.instanceMethod yX1_init),
  (197, Cond.code yX1_init cX1_init 1 none),
  (290, Cond.fieldLink RX9 60 "IceBoats" "drift" "LIceBoats$Drift;"),
  (291, Cond.fieldLink RX9 64 "IceBoats" "findingCounts" "[I"),
  (295, Cond.fieldLink RX9 68 "IceBoats" "lots" "I"),
  (300, Cond.fieldLink RX9 72 "IceBoats" "lastLower" "J"),
  (99, Cond.classLink RX9 9 RX4),
  (213, Cond.instantiable RX4 2),
  (82, Cond.initialized RX4),
  (215, Cond.instanceMethod yX4_init),
  (216, Cond.code yX4_init cX4_init 1 none),
  (154, Cond.classLink RX9 25 RX0),
  (231, Cond.instantiable RX0 12),
  (83, Cond.initialized RX0),
  (233, Cond.instanceMethod yX0_init),
  (234, Cond.code yX0_init cX0_init 1 none),
  (106, Cond.methodLink RX6 3 Lib.objectInit),
  (124, Cond.fieldLink RX6 9 "IceBoats$Sea" "current" "[I"),
  (126, Cond.fieldLink RX6 15 "IceBoats$Sea" "warmth" "[I"),
  (127, Cond.fieldLink RX6 18 "IceBoats$Sea" "ice" "[I"),
  (129, Cond.fieldLink RX6 21 "IceBoats$Sea" "chart" "[I"),
  (131, Cond.fieldLink RX6 24 "IceBoats$Sea" "cellsOfWarmth" "[J"),
  (107, Cond.classLink RX6 28 RX7),
  (108, Cond.instantiable RX7 2),
  (78, Cond.initialized RX7),
  (110, Cond.instanceMethod yX7_init),
  (111, Cond.code yX7_init cX7_init 1 none),
  (133, Cond.fieldLink RX6 31 "IceBoats$Sea" "wave" "LIceBoats$Wave;")]
theorem xWk_0 : xWl_0.all (fun q => decide (lw_tbl[q.1]? = some q.2) && goodWord q.2) = true := by decide +kernel
theorem xw_0 : Cond.methodLink RX9 3 Lib.objectInit ∈ xTs := x_memL xWk_0 0 rfl
theorem xw_1 : Cond.classLink RX9 9 "IceBoats$Row" ∈ xTs := x_memL xWk_0 1 rfl
theorem xw_2 : Cond.fieldLink RX9 11 "IceBoats" "rows" "[LIceBoats$Row;" ∈ xTs := x_memL xWk_0 2 rfl
theorem xw_3 : Cond.fieldLink RX9 15 "IceBoats" "texts" "[LIceBoats$Row;" ∈ xTs := x_memL xWk_0 3 rfl
theorem xw_4 : Cond.classLink RX9 18 RX6 ∈ xTs := x_memL xWk_0 4 rfl
theorem xw_5 : Cond.instantiable RX6 8 ∈ xTs := x_memL xWk_0 5 rfl
theorem xw_6 : Cond.initialized RX6 ∈ xTs := x_memL xWk_0 6 rfl
theorem xw_7 : Cond.methodLink RX9 20 yX6_init ∈ xTs := x_memL xWk_0 7 rfl
theorem xw_8 : Cond.instanceMethod yX6_init ∈ xTs := x_memL xWk_0 8 rfl
theorem xw_9 : Cond.code yX6_init cX6_init 2 none ∈ xTs := x_memL xWk_0 9 rfl
theorem xw_10 : Cond.fieldLink RX9 21 "IceBoats" "waters" "LIceBoats$Sea;" ∈ xTs := x_memL xWk_0 10 rfl
theorem xw_11 : Cond.classLink RX9 25 "IceBoats$Boat" ∈ xTs := x_memL xWk_0 11 rfl
theorem xw_12 : Cond.fieldLink RX9 27 "IceBoats" "fleet" "[LIceBoats$Boat;" ∈ xTs := x_memL xWk_0 12 rfl
theorem xw_13 : Cond.classLink RX9 31 "IceBoats$Word" ∈ xTs := x_memL xWk_0 13 rfl
theorem xw_14 : Cond.fieldLink RX9 33 "IceBoats" "words" "[LIceBoats$Word;" ∈ xTs := x_memL xWk_0 14 rfl
theorem xw_15 : Cond.classLink RX9 37 "IceBoats$Look" ∈ xTs := x_memL xWk_0 15 rfl
theorem xw_16 : Cond.fieldLink RX9 39 "IceBoats" "looks" "[LIceBoats$Look;" ∈ xTs := x_memL xWk_0 16 rfl
theorem xw_17 : Cond.classLink RX9 43 RX5 ∈ xTs := x_memL xWk_0 17 rfl
theorem xw_18 : Cond.instantiable RX5 1 ∈ xTs := x_memL xWk_0 18 rfl
theorem xw_19 : Cond.initialized RX5 ∈ xTs := x_memL xWk_0 19 rfl
theorem xw_20 : Cond.instanceMethod yX5_init ∈ xTs := x_memL xWk_0 20 rfl
theorem xw_21 : Cond.code yX5_init cX5_init 1 none ∈ xTs := x_memL xWk_0 21 rfl
theorem xw_22 : Cond.fieldLink RX9 46 "IceBoats" "reader" "LIceBoats$RuleReader;" ∈ xTs := x_memL xWk_0 22 rfl
theorem xw_23 : Cond.classLink RX9 50 RX3 ∈ xTs := x_memL xWk_0 23 rfl
theorem xw_24 : Cond.instantiable RX3 4 ∈ xTs := x_memL xWk_0 24 rfl
theorem xw_25 : Cond.initialized RX3 ∈ xTs := x_memL xWk_0 25 rfl
theorem xw_26 : Cond.instanceMethod yX3_init ∈ xTs := x_memL xWk_0 26 rfl
theorem xw_27 : Cond.code yX3_init cX3_init 1 none ∈ xTs := x_memL xWk_0 27 rfl
theorem xw_28 : Cond.fieldLink RX9 53 "IceBoats" "planner" "LIceBoats$Planner;" ∈ xTs := x_memL xWk_0 28 rfl
theorem xw_29 : Cond.classLink RX9 57 RX1 ∈ xTs := x_memL xWk_0 29 rfl
theorem xw_30 : Cond.instantiable RX1 4 ∈ xTs := x_memL xWk_0 30 rfl
theorem xw_31 : Cond.initialized RX1 ∈ xTs := x_memL xWk_0 31 rfl
theorem xw_32 : Cond.instanceMethod yX1_init ∈ xTs := x_memL xWk_0 32 rfl
theorem xw_33 : Cond.code yX1_init cX1_init 1 none ∈ xTs := x_memL xWk_0 33 rfl
theorem xw_34 : Cond.fieldLink RX9 60 "IceBoats" "drift" "LIceBoats$Drift;" ∈ xTs := x_memL xWk_0 34 rfl
theorem xw_35 : Cond.fieldLink RX9 64 "IceBoats" "findingCounts" "[I" ∈ xTs := x_memL xWk_0 35 rfl
theorem xw_36 : Cond.fieldLink RX9 68 "IceBoats" "lots" "I" ∈ xTs := x_memL xWk_0 36 rfl
theorem xw_37 : Cond.fieldLink RX9 72 "IceBoats" "lastLower" "J" ∈ xTs := x_memL xWk_0 37 rfl
theorem xw_38 : Cond.classLink RX9 9 RX4 ∈ xTs := x_memL xWk_0 38 rfl
theorem xw_39 : Cond.instantiable RX4 2 ∈ xTs := x_memL xWk_0 39 rfl
theorem xw_40 : Cond.initialized RX4 ∈ xTs := x_memL xWk_0 40 rfl
theorem xw_41 : Cond.instanceMethod yX4_init ∈ xTs := x_memL xWk_0 41 rfl
theorem xw_42 : Cond.code yX4_init cX4_init 1 none ∈ xTs := x_memL xWk_0 42 rfl
theorem xw_43 : Cond.classLink RX9 25 RX0 ∈ xTs := x_memL xWk_0 43 rfl
theorem xw_44 : Cond.instantiable RX0 12 ∈ xTs := x_memL xWk_0 44 rfl
theorem xw_45 : Cond.initialized RX0 ∈ xTs := x_memL xWk_0 45 rfl
theorem xw_46 : Cond.instanceMethod yX0_init ∈ xTs := x_memL xWk_0 46 rfl
theorem xw_47 : Cond.code yX0_init cX0_init 1 none ∈ xTs := x_memL xWk_0 47 rfl
theorem xw_48 : Cond.methodLink RX6 3 Lib.objectInit ∈ xTs := x_memL xWk_0 48 rfl
theorem xw_49 : Cond.fieldLink RX6 9 "IceBoats$Sea" "current" "[I" ∈ xTs := x_memL xWk_0 49 rfl
theorem xw_50 : Cond.fieldLink RX6 15 "IceBoats$Sea" "warmth" "[I" ∈ xTs := x_memL xWk_0 50 rfl
theorem xw_51 : Cond.fieldLink RX6 18 "IceBoats$Sea" "ice" "[I" ∈ xTs := x_memL xWk_0 51 rfl
theorem xw_52 : Cond.fieldLink RX6 21 "IceBoats$Sea" "chart" "[I" ∈ xTs := x_memL xWk_0 52 rfl
theorem xw_53 : Cond.fieldLink RX6 24 "IceBoats$Sea" "cellsOfWarmth" "[J" ∈ xTs := x_memL xWk_0 53 rfl
theorem xw_54 : Cond.classLink RX6 28 RX7 ∈ xTs := x_memL xWk_0 54 rfl
theorem xw_55 : Cond.instantiable RX7 2 ∈ xTs := x_memL xWk_0 55 rfl
theorem xw_56 : Cond.initialized RX7 ∈ xTs := x_memL xWk_0 56 rfl
theorem xw_57 : Cond.instanceMethod yX7_init ∈ xTs := x_memL xWk_0 57 rfl
theorem xw_58 : Cond.code yX7_init cX7_init 1 none ∈ xTs := x_memL xWk_0 58 rfl
theorem xw_59 : Cond.fieldLink RX6 31 "IceBoats$Sea" "wave" "LIceBoats$Wave;" ∈ xTs := x_memL xWk_0 59 rfl
def xWl_1 : List (Nat × Cond) := [(123, Cond.constantLong RX6 35 (-1)),
  (112, Cond.methodLink RX7 3 Lib.objectInit),
  (113, Cond.fieldLink RX7 9 "IceBoats$Wave" "fronts" "[J"),
  (165, Cond.methodLink RX5 3 Lib.objectInit),
  (166, Cond.fieldLink RX5 9 "IceBoats$RuleReader" "numbers" "[I"),
  (176, Cond.methodLink RX3 3 Lib.objectInit),
  (177, Cond.fieldLink RX3 9 "IceBoats$Planner" "cells" "[J"),
  (178, Cond.fieldLink RX3 15 "IceBoats$Planner" "offered" "[Z"),
  (198, Cond.methodLink RX1 5 Lib.objectInit),
  (199, Cond.fieldLink RX1 11 "IceBoats$Drift" "weights" "[I"),
  (201, Cond.fieldLink RX1 15 "IceBoats$Drift" "oddness" "[I"),
  (202, Cond.fieldLink RX1 18 "IceBoats$Drift" "nextWeights" "[I"),
  (203, Cond.fieldLink RX1 21 "IceBoats$Drift" "nextOddness" "[I"),
  (217, Cond.methodLink RX4 3 Lib.objectInit),
  (218, Cond.fieldLink RX4 9 "IceBoats$Row" "places" "[I"),
  (222, Cond.fieldLink RX4 15 "IceBoats$Row" "size" "I"),
  (235, Cond.methodLink RX0 3 Lib.objectInit),
  (236, Cond.fieldLink RX0 9 "IceBoats$Boat" "rules" "[I"),
  (242, Cond.fieldLink RX0 15 "IceBoats$Boat" "power" "I"),
  (244, Cond.fieldLink RX0 19 "IceBoats$Boat" "could" "J"),
  (246, Cond.fieldLink RX0 23 "IceBoats$Boat" "way" "I"),
  (250, Cond.fieldLink RX0 26 "IceBoats$Boat" "lastSpoke" "I"),
  (344, Cond.methodLink RX9 78 yX9_rowAt),
  (346, Cond.instanceMethod yX9_rowAt),
  (0, Cond.selects RX9 yX9_rowAt yX9_rowAt),
  (76, Cond.initialized RX9),
  (347, Cond.code yX9_rowAt cX9_rowAt 2 (some (.object "IceBoats$Row"))),
  (348, Cond.methodLink RX9 82 yX9_found),
  (350, Cond.instanceMethod yX9_found),
  (1, Cond.selects RX9 yX9_found yX9_found),
  (351, Cond.code yX9_found cX9_found 2 (some .int)),
  (352, Cond.methodLink RX9 86 yX4_beAnew),
  (353, Cond.instanceMethod yX4_beAnew),
  (354, Cond.selects RX4 yX4_beAnew yX4_beAnew),
  (355, Cond.code yX4_beAnew cX4_beAnew 4 none),
  (296, Cond.fieldLink RX9 444 "IceBoats" "lastFinding" "I"),
  (360, Cond.methodLink RX9 90 yX4_isMissing),
  (361, Cond.instanceMethod yX4_isMissing),
  (362, Cond.selects RX4 yX4_isMissing yX4_isMissing),
  (363, Cond.code yX4_isMissing cX4_isMissing 1 (some .boolean)),
  (364, Cond.methodLink RX9 94 yX4_holds),
  (365, Cond.instanceMethod yX4_holds),
  (366, Cond.selects RX4 yX4_holds yX4_holds),
  (367, Cond.code yX4_holds cX4_holds 3 (some .boolean)),
  (220, Cond.fieldLink RX9 98 "IceBoats$Row" "places" "[I"),
  (368, Cond.methodLink RX9 101 yX9_tellAsked),
  (370, Cond.instanceMethod yX9_tellAsked),
  (2, Cond.selects RX9 yX9_tellAsked yX9_tellAsked),
  (371, Cond.code yX9_tellAsked cX9_tellAsked 2 (some .int)),
  (297, Cond.fieldLink RX9 364 "IceBoats" "lastAsked" "I"),
  (224, Cond.fieldLink RX9 104 "IceBoats$Row" "size" "I"),
  (391, Cond.methodLink RX9 113 yX9_textAt),
  (393, Cond.instanceMethod yX9_textAt),
  (3, Cond.selects RX9 yX9_textAt yX9_textAt),
  (394, Cond.code yX9_textAt cX9_textAt 2 (some (.object "IceBoats$Row"))),
  (403, Cond.methodLink RX9 116 yX9_isCell),
  (404, Cond.static yX9_isCell),
  (405, Cond.code yX9_isCell cX9_isCell 1 (some .boolean)),
  (136, Cond.fieldLink RX9 120 "IceBoats$Sea" "hole" "I"),
  (406, Cond.methodLink RX9 123 yX9_boatLiesIn)]
theorem xWk_1 : xWl_1.all (fun q => decide (lw_tbl[q.1]? = some q.2) && goodWord q.2) = true := by decide +kernel
theorem xw_60 : Cond.constantLong RX6 35 (-1) ∈ xTs := x_memL xWk_1 0 rfl
theorem xw_61 : Cond.methodLink RX7 3 Lib.objectInit ∈ xTs := x_memL xWk_1 1 rfl
theorem xw_62 : Cond.fieldLink RX7 9 "IceBoats$Wave" "fronts" "[J" ∈ xTs := x_memL xWk_1 2 rfl
theorem xw_63 : Cond.methodLink RX5 3 Lib.objectInit ∈ xTs := x_memL xWk_1 3 rfl
theorem xw_64 : Cond.fieldLink RX5 9 "IceBoats$RuleReader" "numbers" "[I" ∈ xTs := x_memL xWk_1 4 rfl
theorem xw_65 : Cond.methodLink RX3 3 Lib.objectInit ∈ xTs := x_memL xWk_1 5 rfl
theorem xw_66 : Cond.fieldLink RX3 9 "IceBoats$Planner" "cells" "[J" ∈ xTs := x_memL xWk_1 6 rfl
theorem xw_67 : Cond.fieldLink RX3 15 "IceBoats$Planner" "offered" "[Z" ∈ xTs := x_memL xWk_1 7 rfl
theorem xw_68 : Cond.methodLink RX1 5 Lib.objectInit ∈ xTs := x_memL xWk_1 8 rfl
theorem xw_69 : Cond.fieldLink RX1 11 "IceBoats$Drift" "weights" "[I" ∈ xTs := x_memL xWk_1 9 rfl
theorem xw_70 : Cond.fieldLink RX1 15 "IceBoats$Drift" "oddness" "[I" ∈ xTs := x_memL xWk_1 10 rfl
theorem xw_71 : Cond.fieldLink RX1 18 "IceBoats$Drift" "nextWeights" "[I" ∈ xTs := x_memL xWk_1 11 rfl
theorem xw_72 : Cond.fieldLink RX1 21 "IceBoats$Drift" "nextOddness" "[I" ∈ xTs := x_memL xWk_1 12 rfl
theorem xw_73 : Cond.methodLink RX4 3 Lib.objectInit ∈ xTs := x_memL xWk_1 13 rfl
theorem xw_74 : Cond.fieldLink RX4 9 "IceBoats$Row" "places" "[I" ∈ xTs := x_memL xWk_1 14 rfl
theorem xw_75 : Cond.fieldLink RX4 15 "IceBoats$Row" "size" "I" ∈ xTs := x_memL xWk_1 15 rfl
theorem xw_76 : Cond.methodLink RX0 3 Lib.objectInit ∈ xTs := x_memL xWk_1 16 rfl
theorem xw_77 : Cond.fieldLink RX0 9 "IceBoats$Boat" "rules" "[I" ∈ xTs := x_memL xWk_1 17 rfl
theorem xw_78 : Cond.fieldLink RX0 15 "IceBoats$Boat" "power" "I" ∈ xTs := x_memL xWk_1 18 rfl
theorem xw_79 : Cond.fieldLink RX0 19 "IceBoats$Boat" "could" "J" ∈ xTs := x_memL xWk_1 19 rfl
theorem xw_80 : Cond.fieldLink RX0 23 "IceBoats$Boat" "way" "I" ∈ xTs := x_memL xWk_1 20 rfl
theorem xw_81 : Cond.fieldLink RX0 26 "IceBoats$Boat" "lastSpoke" "I" ∈ xTs := x_memL xWk_1 21 rfl
theorem xw_82 : Cond.methodLink RX9 78 yX9_rowAt ∈ xTs := x_memL xWk_1 22 rfl
theorem xw_83 : Cond.instanceMethod yX9_rowAt ∈ xTs := x_memL xWk_1 23 rfl
theorem xw_84 : Cond.selects RX9 yX9_rowAt yX9_rowAt ∈ xTs := x_memL xWk_1 24 rfl
theorem xw_85 : Cond.initialized RX9 ∈ xTs := x_memL xWk_1 25 rfl
theorem xw_86 : Cond.code yX9_rowAt cX9_rowAt 2 (some (.object "IceBoats$Row")) ∈ xTs := x_memL xWk_1 26 rfl
theorem xw_87 : Cond.methodLink RX9 82 yX9_found ∈ xTs := x_memL xWk_1 27 rfl
theorem xw_88 : Cond.instanceMethod yX9_found ∈ xTs := x_memL xWk_1 28 rfl
theorem xw_89 : Cond.selects RX9 yX9_found yX9_found ∈ xTs := x_memL xWk_1 29 rfl
theorem xw_90 : Cond.code yX9_found cX9_found 2 (some .int) ∈ xTs := x_memL xWk_1 30 rfl
theorem xw_91 : Cond.methodLink RX9 86 yX4_beAnew ∈ xTs := x_memL xWk_1 31 rfl
theorem xw_92 : Cond.instanceMethod yX4_beAnew ∈ xTs := x_memL xWk_1 32 rfl
theorem xw_93 : Cond.selects RX4 yX4_beAnew yX4_beAnew ∈ xTs := x_memL xWk_1 33 rfl
theorem xw_94 : Cond.code yX4_beAnew cX4_beAnew 4 none ∈ xTs := x_memL xWk_1 34 rfl
theorem xw_95 : Cond.fieldLink RX9 444 "IceBoats" "lastFinding" "I" ∈ xTs := x_memL xWk_1 35 rfl
theorem xw_96 : Cond.methodLink RX9 90 yX4_isMissing ∈ xTs := x_memL xWk_1 36 rfl
theorem xw_97 : Cond.instanceMethod yX4_isMissing ∈ xTs := x_memL xWk_1 37 rfl
theorem xw_98 : Cond.selects RX4 yX4_isMissing yX4_isMissing ∈ xTs := x_memL xWk_1 38 rfl
theorem xw_99 : Cond.code yX4_isMissing cX4_isMissing 1 (some .boolean) ∈ xTs := x_memL xWk_1 39 rfl
theorem xw_100 : Cond.methodLink RX9 94 yX4_holds ∈ xTs := x_memL xWk_1 40 rfl
theorem xw_101 : Cond.instanceMethod yX4_holds ∈ xTs := x_memL xWk_1 41 rfl
theorem xw_102 : Cond.selects RX4 yX4_holds yX4_holds ∈ xTs := x_memL xWk_1 42 rfl
theorem xw_103 : Cond.code yX4_holds cX4_holds 3 (some .boolean) ∈ xTs := x_memL xWk_1 43 rfl
theorem xw_104 : Cond.fieldLink RX9 98 "IceBoats$Row" "places" "[I" ∈ xTs := x_memL xWk_1 44 rfl
theorem xw_105 : Cond.methodLink RX9 101 yX9_tellAsked ∈ xTs := x_memL xWk_1 45 rfl
theorem xw_106 : Cond.instanceMethod yX9_tellAsked ∈ xTs := x_memL xWk_1 46 rfl
theorem xw_107 : Cond.selects RX9 yX9_tellAsked yX9_tellAsked ∈ xTs := x_memL xWk_1 47 rfl
theorem xw_108 : Cond.code yX9_tellAsked cX9_tellAsked 2 (some .int) ∈ xTs := x_memL xWk_1 48 rfl
theorem xw_109 : Cond.fieldLink RX9 364 "IceBoats" "lastAsked" "I" ∈ xTs := x_memL xWk_1 49 rfl
theorem xw_110 : Cond.fieldLink RX9 104 "IceBoats$Row" "size" "I" ∈ xTs := x_memL xWk_1 50 rfl
theorem xw_111 : Cond.methodLink RX9 113 yX9_textAt ∈ xTs := x_memL xWk_1 51 rfl
theorem xw_112 : Cond.instanceMethod yX9_textAt ∈ xTs := x_memL xWk_1 52 rfl
theorem xw_113 : Cond.selects RX9 yX9_textAt yX9_textAt ∈ xTs := x_memL xWk_1 53 rfl
theorem xw_114 : Cond.code yX9_textAt cX9_textAt 2 (some (.object "IceBoats$Row")) ∈ xTs := x_memL xWk_1 54 rfl
theorem xw_115 : Cond.methodLink RX9 116 yX9_isCell ∈ xTs := x_memL xWk_1 55 rfl
theorem xw_116 : Cond.static yX9_isCell ∈ xTs := x_memL xWk_1 56 rfl
theorem xw_117 : Cond.code yX9_isCell cX9_isCell 1 (some .boolean) ∈ xTs := x_memL xWk_1 57 rfl
theorem xw_118 : Cond.fieldLink RX9 120 "IceBoats$Sea" "hole" "I" ∈ xTs := x_memL xWk_1 58 rfl
theorem xw_119 : Cond.methodLink RX9 123 yX9_boatLiesIn ∈ xTs := x_memL xWk_1 59 rfl
def xWl_2 : List (Nat × Cond) := [(408, Cond.instanceMethod yX9_boatLiesIn),
  (4, Cond.selects RX9 yX9_boatLiesIn yX9_boatLiesIn),
  (409, Cond.code yX9_boatLiesIn cX9_boatLiesIn 3 (some .boolean)),
  (410, Cond.methodLink RX9 126 yX6_isRock),
  (411, Cond.instanceMethod yX6_isRock),
  (412, Cond.selects RX6 yX6_isRock yX6_isRock),
  (413, Cond.code yX6_isRock cX6_isRock 2 (some .boolean)),
  (417, Cond.methodLink RX9 129 yX6_becomeRock),
  (418, Cond.instanceMethod yX6_becomeRock),
  (419, Cond.selects RX6 yX6_becomeRock yX6_becomeRock),
  (420, Cond.code yX6_becomeRock cX6_becomeRock 3 none),
  (241, Cond.fieldLink RX9 218 "IceBoats$Boat" "cell" "I"),
  (134, Cond.fieldLink RX6 37 "IceBoats$Sea" "rocks" "J"),
  (415, Cond.static yX9_hasBit),
  (416, Cond.code yX9_hasBit cX9_hasBit 3 (some .boolean)),
  (425, Cond.methodLink RX9 133 yX9_isWay),
  (426, Cond.static yX9_isWay),
  (427, Cond.code yX9_isWay cX9_isWay 1 (some .boolean)),
  (428, Cond.methodLink RX9 136 yX9_isIce),
  (429, Cond.static yX9_isIce),
  (430, Cond.code yX9_isIce cX9_isIce 1 (some .boolean)),
  (125, Cond.fieldLink RX9 139 "IceBoats$Sea" "current" "[I"),
  (431, Cond.methodLink RX9 142 yX6_becomeWarm),
  (432, Cond.instanceMethod yX6_becomeWarm),
  (433, Cond.selects RX6 yX6_becomeWarm yX6_becomeWarm),
  (434, Cond.code yX6_becomeWarm cX6_becomeWarm 3 none),
  (128, Cond.fieldLink RX9 145 "IceBoats$Sea" "ice" "[I"),
  (439, Cond.methodLink RX9 148 yX6_tellOf),
  (440, Cond.instanceMethod yX6_tellOf),
  (441, Cond.selects RX6 yX6_tellOf yX6_tellOf),
  (442, Cond.code yX6_tellOf cX6_tellOf 3 (some .int)),
  (443, Cond.methodLink RX6 45 yX6_isRock),
  (130, Cond.fieldLink RX9 152 "IceBoats$Sea" "chart" "[I"),
  (460, Cond.methodLink RX9 155 yX9_boatAt),
  (462, Cond.instanceMethod yX9_boatAt),
  (5, Cond.selects RX9 yX9_boatAt yX9_boatAt),
  (463, Cond.code yX9_boatAt cX9_boatAt 2 (some (.object "IceBoats$Boat"))),
  (294, Cond.fieldLink RX9 159 "IceBoats" "theTick" "I"),
  (467, Cond.methodLink RX9 162 yX0_letDown),
  (468, Cond.instanceMethod yX0_letDown),
  (469, Cond.selects RX0 yX0_letDown yX0_letDown),
  (470, Cond.code yX0_letDown cX0_letDown 5 none),
  (464, Cond.methodLink RX9 305 yX9_isBoat),
  (465, Cond.static yX9_isBoat),
  (466, Cond.code yX9_isBoat cX9_isBoat 1 (some .boolean)),
  (238, Cond.fieldLink RX0 29 "IceBoats$Boat" "kind" "I"),
  (240, Cond.fieldLink RX0 32 "IceBoats$Boat" "cell" "I"),
  (248, Cond.fieldLink RX0 35 "IceBoats$Boat" "lastHeard" "I"),
  (252, Cond.fieldLink RX0 38 "IceBoats$Boat" "since" "I"),
  (475, Cond.methodLink RX9 166 yX9_tellOfBoat),
  (477, Cond.instanceMethod yX9_tellOfBoat),
  (6, Cond.selects RX9 yX9_tellOfBoat yX9_tellOfBoat),
  (478, Cond.code yX9_tellOfBoat cX9_tellOfBoat 4 (some .int)),
  (239, Cond.fieldLink RX9 170 "IceBoats$Boat" "kind" "I"),
  (243, Cond.fieldLink RX9 185 "IceBoats$Boat" "power" "I"),
  (245, Cond.fieldLink RX9 191 "IceBoats$Boat" "could" "J"),
  (479, Cond.methodLink RX9 246 (⟨"java/lang/Long", "bitCount", "(J)I"⟩ : MethodName)),
  (480, Cond.static (⟨"java/lang/Long", "bitCount", "(J)I"⟩ : MethodName)),
  (86, Cond.initialized "java/lang/Long"),
  (481, Cond.code (⟨"java/lang/Long", "bitCount", "(J)I"⟩ : MethodName) prog_14_method_50_code 2 (some .int))]
theorem xWk_2 : xWl_2.all (fun q => decide (lw_tbl[q.1]? = some q.2) && goodWord q.2) = true := by decide +kernel
theorem xw_120 : Cond.instanceMethod yX9_boatLiesIn ∈ xTs := x_memL xWk_2 0 rfl
theorem xw_121 : Cond.selects RX9 yX9_boatLiesIn yX9_boatLiesIn ∈ xTs := x_memL xWk_2 1 rfl
theorem xw_122 : Cond.code yX9_boatLiesIn cX9_boatLiesIn 3 (some .boolean) ∈ xTs := x_memL xWk_2 2 rfl
theorem xw_123 : Cond.methodLink RX9 126 yX6_isRock ∈ xTs := x_memL xWk_2 3 rfl
theorem xw_124 : Cond.instanceMethod yX6_isRock ∈ xTs := x_memL xWk_2 4 rfl
theorem xw_125 : Cond.selects RX6 yX6_isRock yX6_isRock ∈ xTs := x_memL xWk_2 5 rfl
theorem xw_126 : Cond.code yX6_isRock cX6_isRock 2 (some .boolean) ∈ xTs := x_memL xWk_2 6 rfl
theorem xw_127 : Cond.methodLink RX9 129 yX6_becomeRock ∈ xTs := x_memL xWk_2 7 rfl
theorem xw_128 : Cond.instanceMethod yX6_becomeRock ∈ xTs := x_memL xWk_2 8 rfl
theorem xw_129 : Cond.selects RX6 yX6_becomeRock yX6_becomeRock ∈ xTs := x_memL xWk_2 9 rfl
theorem xw_130 : Cond.code yX6_becomeRock cX6_becomeRock 3 none ∈ xTs := x_memL xWk_2 10 rfl
theorem xw_131 : Cond.fieldLink RX9 218 "IceBoats$Boat" "cell" "I" ∈ xTs := x_memL xWk_2 11 rfl
theorem xw_132 : Cond.fieldLink RX6 37 "IceBoats$Sea" "rocks" "J" ∈ xTs := x_memL xWk_2 12 rfl
theorem xw_133 : Cond.static yX9_hasBit ∈ xTs := x_memL xWk_2 13 rfl
theorem xw_134 : Cond.code yX9_hasBit cX9_hasBit 3 (some .boolean) ∈ xTs := x_memL xWk_2 14 rfl
theorem xw_135 : Cond.methodLink RX9 133 yX9_isWay ∈ xTs := x_memL xWk_2 15 rfl
theorem xw_136 : Cond.static yX9_isWay ∈ xTs := x_memL xWk_2 16 rfl
theorem xw_137 : Cond.code yX9_isWay cX9_isWay 1 (some .boolean) ∈ xTs := x_memL xWk_2 17 rfl
theorem xw_138 : Cond.methodLink RX9 136 yX9_isIce ∈ xTs := x_memL xWk_2 18 rfl
theorem xw_139 : Cond.static yX9_isIce ∈ xTs := x_memL xWk_2 19 rfl
theorem xw_140 : Cond.code yX9_isIce cX9_isIce 1 (some .boolean) ∈ xTs := x_memL xWk_2 20 rfl
theorem xw_141 : Cond.fieldLink RX9 139 "IceBoats$Sea" "current" "[I" ∈ xTs := x_memL xWk_2 21 rfl
theorem xw_142 : Cond.methodLink RX9 142 yX6_becomeWarm ∈ xTs := x_memL xWk_2 22 rfl
theorem xw_143 : Cond.instanceMethod yX6_becomeWarm ∈ xTs := x_memL xWk_2 23 rfl
theorem xw_144 : Cond.selects RX6 yX6_becomeWarm yX6_becomeWarm ∈ xTs := x_memL xWk_2 24 rfl
theorem xw_145 : Cond.code yX6_becomeWarm cX6_becomeWarm 3 none ∈ xTs := x_memL xWk_2 25 rfl
theorem xw_146 : Cond.fieldLink RX9 145 "IceBoats$Sea" "ice" "[I" ∈ xTs := x_memL xWk_2 26 rfl
theorem xw_147 : Cond.methodLink RX9 148 yX6_tellOf ∈ xTs := x_memL xWk_2 27 rfl
theorem xw_148 : Cond.instanceMethod yX6_tellOf ∈ xTs := x_memL xWk_2 28 rfl
theorem xw_149 : Cond.selects RX6 yX6_tellOf yX6_tellOf ∈ xTs := x_memL xWk_2 29 rfl
theorem xw_150 : Cond.code yX6_tellOf cX6_tellOf 3 (some .int) ∈ xTs := x_memL xWk_2 30 rfl
theorem xw_151 : Cond.methodLink RX6 45 yX6_isRock ∈ xTs := x_memL xWk_2 31 rfl
theorem xw_152 : Cond.fieldLink RX9 152 "IceBoats$Sea" "chart" "[I" ∈ xTs := x_memL xWk_2 32 rfl
theorem xw_153 : Cond.methodLink RX9 155 yX9_boatAt ∈ xTs := x_memL xWk_2 33 rfl
theorem xw_154 : Cond.instanceMethod yX9_boatAt ∈ xTs := x_memL xWk_2 34 rfl
theorem xw_155 : Cond.selects RX9 yX9_boatAt yX9_boatAt ∈ xTs := x_memL xWk_2 35 rfl
theorem xw_156 : Cond.code yX9_boatAt cX9_boatAt 2 (some (.object "IceBoats$Boat")) ∈ xTs := x_memL xWk_2 36 rfl
theorem xw_157 : Cond.fieldLink RX9 159 "IceBoats" "theTick" "I" ∈ xTs := x_memL xWk_2 37 rfl
theorem xw_158 : Cond.methodLink RX9 162 yX0_letDown ∈ xTs := x_memL xWk_2 38 rfl
theorem xw_159 : Cond.instanceMethod yX0_letDown ∈ xTs := x_memL xWk_2 39 rfl
theorem xw_160 : Cond.selects RX0 yX0_letDown yX0_letDown ∈ xTs := x_memL xWk_2 40 rfl
theorem xw_161 : Cond.code yX0_letDown cX0_letDown 5 none ∈ xTs := x_memL xWk_2 41 rfl
theorem xw_162 : Cond.methodLink RX9 305 yX9_isBoat ∈ xTs := x_memL xWk_2 42 rfl
theorem xw_163 : Cond.static yX9_isBoat ∈ xTs := x_memL xWk_2 43 rfl
theorem xw_164 : Cond.code yX9_isBoat cX9_isBoat 1 (some .boolean) ∈ xTs := x_memL xWk_2 44 rfl
theorem xw_165 : Cond.fieldLink RX0 29 "IceBoats$Boat" "kind" "I" ∈ xTs := x_memL xWk_2 45 rfl
theorem xw_166 : Cond.fieldLink RX0 32 "IceBoats$Boat" "cell" "I" ∈ xTs := x_memL xWk_2 46 rfl
theorem xw_167 : Cond.fieldLink RX0 35 "IceBoats$Boat" "lastHeard" "I" ∈ xTs := x_memL xWk_2 47 rfl
theorem xw_168 : Cond.fieldLink RX0 38 "IceBoats$Boat" "since" "I" ∈ xTs := x_memL xWk_2 48 rfl
theorem xw_169 : Cond.methodLink RX9 166 yX9_tellOfBoat ∈ xTs := x_memL xWk_2 49 rfl
theorem xw_170 : Cond.instanceMethod yX9_tellOfBoat ∈ xTs := x_memL xWk_2 50 rfl
theorem xw_171 : Cond.selects RX9 yX9_tellOfBoat yX9_tellOfBoat ∈ xTs := x_memL xWk_2 51 rfl
theorem xw_172 : Cond.code yX9_tellOfBoat cX9_tellOfBoat 4 (some .int) ∈ xTs := x_memL xWk_2 52 rfl
theorem xw_173 : Cond.fieldLink RX9 170 "IceBoats$Boat" "kind" "I" ∈ xTs := x_memL xWk_2 53 rfl
theorem xw_174 : Cond.fieldLink RX9 185 "IceBoats$Boat" "power" "I" ∈ xTs := x_memL xWk_2 54 rfl
theorem xw_175 : Cond.fieldLink RX9 191 "IceBoats$Boat" "could" "J" ∈ xTs := x_memL xWk_2 55 rfl
theorem xw_176 : Cond.methodLink RX9 246 (⟨"java/lang/Long", "bitCount", "(J)I"⟩ : MethodName) ∈ xTs := x_memL xWk_2 56 rfl
theorem xw_177 : Cond.static (⟨"java/lang/Long", "bitCount", "(J)I"⟩ : MethodName) ∈ xTs := x_memL xWk_2 57 rfl
theorem xw_178 : Cond.initialized "java/lang/Long" ∈ xTs := x_memL xWk_2 58 rfl
theorem xw_179 : Cond.code (⟨"java/lang/Long", "bitCount", "(J)I"⟩ : MethodName) prog_14_method_50_code 2 (some .int) ∈ xTs := x_memL xWk_2 59 rfl
def xWl_3 : List (Nat × Cond) := [(485, Cond.methodLink RX9 473 yX9_looksHeldBy),
  (487, Cond.instanceMethod yX9_looksHeldBy),
  (7, Cond.selects RX9 yX9_looksHeldBy yX9_looksHeldBy),
  (488, Cond.code yX9_looksHeldBy cX9_looksHeldBy 4 (some .int)),
  (249, Cond.fieldLink RX9 476 "IceBoats$Boat" "lastHeard" "I"),
  (482, Cond.constantLong "java/lang/Long" 314 6148914691236517205),
  (483, Cond.constantLong "java/lang/Long" 316 3689348814741910323),
  (484, Cond.constantLong "java/lang/Long" 318 1085102592571150095),
  (293, Cond.fieldLink RX9 215 "IceBoats" "lookCount" "I"),
  (627, Cond.fieldLink RX9 367 "IceBoats$Look" "holders" "I"),
  (489, Cond.methodLink RX9 325 yX9_hasBit),
  (494, Cond.fieldLink RX9 173 "IceBoats" "BOAT_KIND_ABOVE" "[I"),
  (254, Cond.fieldLink RX9 176 "IceBoats$Boat" "looksMade" "I"),
  (255, Cond.fieldLink RX9 179 "IceBoats$Boat" "wordsSaid" "I"),
  (496, Cond.methodLink RX9 182 yX9_looksOnlyHeldBy),
  (498, Cond.instanceMethod yX9_looksOnlyHeldBy),
  (8, Cond.selects RX9 yX9_looksOnlyHeldBy yX9_looksOnlyHeldBy),
  (499, Cond.code yX9_looksOnlyHeldBy cX9_looksOnlyHeldBy 4 (some .int)),
  (253, Cond.fieldLink RX9 188 "IceBoats$Boat" "since" "I"),
  (504, Cond.methodLink RX9 194 yX9_tellSet),
  (506, Cond.instanceMethod yX9_tellSet),
  (9, Cond.selects RX9 yX9_tellSet yX9_tellSet),
  (507, Cond.code yX9_tellSet cX9_tellSet 3 (some .int)),
  (298, Cond.fieldLink RX9 428 "IceBoats" "lastSet" "J"),
  (512, Cond.methodLink RX9 198 yX0_isAble),
  (513, Cond.instanceMethod yX0_isAble),
  (514, Cond.selects RX0 yX0_isAble yX0_isAble),
  (515, Cond.code yX0_isAble cX0_isAble 1 (some .boolean)),
  (247, Cond.fieldLink RX9 201 "IceBoats$Boat" "way" "I"),
  (520, Cond.methodLink RX9 204 yX9_moveBoat),
  (522, Cond.instanceMethod yX9_moveBoat),
  (10, Cond.selects RX9 yX9_moveBoat yX9_moveBoat),
  (523, Cond.code yX9_moveBoat cX9_moveBoat 3 none),
  (547, Cond.methodLink RX9 208 yX9_hearWhatComes),
  (549, Cond.instanceMethod yX9_hearWhatComes),
  (12, Cond.selects RX9 yX9_hearWhatComes yX9_hearWhatComes),
  (550, Cond.code yX9_hearWhatComes cX9_hearWhatComes 5 (some .int)),
  (606, Cond.methodLink RX9 211 yX0_failIfDue),
  (607, Cond.instanceMethod yX0_failIfDue),
  (608, Cond.selects RX0 yX0_failIfDue yX0_failIfDue),
  (609, Cond.code yX0_failIfDue cX0_failIfDue 2 none),
  (524, Cond.methodLink RX9 479 yX6_leadsTo),
  (525, Cond.instanceMethod yX6_leadsTo),
  (526, Cond.selects RX6 yX6_leadsTo yX6_leadsTo),
  (527, Cond.code yX6_leadsTo cX6_leadsTo 5 (some .int)),
  (532, Cond.methodLink RX9 482 yX9_lotCarries),
  (534, Cond.instanceMethod yX9_lotCarries),
  (11, Cond.selects RX9 yX9_lotCarries yX9_lotCarries),
  (535, Cond.code yX9_lotCarries cX9_lotCarries 1 (some .boolean)),
  (537, Cond.methodLink RX9 485 yX6_carriedFrom),
  (538, Cond.instanceMethod yX6_carriedFrom),
  (539, Cond.selects RX6 yX6_carriedFrom yX6_carriedFrom),
  (540, Cond.code yX6_carriedFrom cX6_carriedFrom 2 (some .int)),
  (542, Cond.methodLink RX9 488 yX6_couldBehind),
  (543, Cond.instanceMethod yX6_couldBehind),
  (544, Cond.selects RX6 yX6_couldBehind yX6_couldBehind),
  (545, Cond.code yX6_couldBehind cX6_couldBehind 8 (some .long)),
  (536, Cond.constant RX9 492 1103515245),
  (541, Cond.methodLink RX6 55 yX6_leadsTo),
  (546, Cond.methodLink RX6 59 yX6_carriedFrom)]
theorem xWk_3 : xWl_3.all (fun q => decide (lw_tbl[q.1]? = some q.2) && goodWord q.2) = true := by decide +kernel
theorem xw_180 : Cond.methodLink RX9 473 yX9_looksHeldBy ∈ xTs := x_memL xWk_3 0 rfl
theorem xw_181 : Cond.instanceMethod yX9_looksHeldBy ∈ xTs := x_memL xWk_3 1 rfl
theorem xw_182 : Cond.selects RX9 yX9_looksHeldBy yX9_looksHeldBy ∈ xTs := x_memL xWk_3 2 rfl
theorem xw_183 : Cond.code yX9_looksHeldBy cX9_looksHeldBy 4 (some .int) ∈ xTs := x_memL xWk_3 3 rfl
theorem xw_184 : Cond.fieldLink RX9 476 "IceBoats$Boat" "lastHeard" "I" ∈ xTs := x_memL xWk_3 4 rfl
theorem xw_185 : Cond.constantLong "java/lang/Long" 314 6148914691236517205 ∈ xTs := x_memL xWk_3 5 rfl
theorem xw_186 : Cond.constantLong "java/lang/Long" 316 3689348814741910323 ∈ xTs := x_memL xWk_3 6 rfl
theorem xw_187 : Cond.constantLong "java/lang/Long" 318 1085102592571150095 ∈ xTs := x_memL xWk_3 7 rfl
theorem xw_188 : Cond.fieldLink RX9 215 "IceBoats" "lookCount" "I" ∈ xTs := x_memL xWk_3 8 rfl
theorem xw_189 : Cond.fieldLink RX9 367 "IceBoats$Look" "holders" "I" ∈ xTs := x_memL xWk_3 9 rfl
theorem xw_190 : Cond.methodLink RX9 325 yX9_hasBit ∈ xTs := x_memL xWk_3 10 rfl
theorem xw_191 : Cond.fieldLink RX9 173 "IceBoats" "BOAT_KIND_ABOVE" "[I" ∈ xTs := x_memL xWk_3 11 rfl
theorem xw_192 : Cond.fieldLink RX9 176 "IceBoats$Boat" "looksMade" "I" ∈ xTs := x_memL xWk_3 12 rfl
theorem xw_193 : Cond.fieldLink RX9 179 "IceBoats$Boat" "wordsSaid" "I" ∈ xTs := x_memL xWk_3 13 rfl
theorem xw_194 : Cond.methodLink RX9 182 yX9_looksOnlyHeldBy ∈ xTs := x_memL xWk_3 14 rfl
theorem xw_195 : Cond.instanceMethod yX9_looksOnlyHeldBy ∈ xTs := x_memL xWk_3 15 rfl
theorem xw_196 : Cond.selects RX9 yX9_looksOnlyHeldBy yX9_looksOnlyHeldBy ∈ xTs := x_memL xWk_3 16 rfl
theorem xw_197 : Cond.code yX9_looksOnlyHeldBy cX9_looksOnlyHeldBy 4 (some .int) ∈ xTs := x_memL xWk_3 17 rfl
theorem xw_198 : Cond.fieldLink RX9 188 "IceBoats$Boat" "since" "I" ∈ xTs := x_memL xWk_3 18 rfl
theorem xw_199 : Cond.methodLink RX9 194 yX9_tellSet ∈ xTs := x_memL xWk_3 19 rfl
theorem xw_200 : Cond.instanceMethod yX9_tellSet ∈ xTs := x_memL xWk_3 20 rfl
theorem xw_201 : Cond.selects RX9 yX9_tellSet yX9_tellSet ∈ xTs := x_memL xWk_3 21 rfl
theorem xw_202 : Cond.code yX9_tellSet cX9_tellSet 3 (some .int) ∈ xTs := x_memL xWk_3 22 rfl
theorem xw_203 : Cond.fieldLink RX9 428 "IceBoats" "lastSet" "J" ∈ xTs := x_memL xWk_3 23 rfl
theorem xw_204 : Cond.methodLink RX9 198 yX0_isAble ∈ xTs := x_memL xWk_3 24 rfl
theorem xw_205 : Cond.instanceMethod yX0_isAble ∈ xTs := x_memL xWk_3 25 rfl
theorem xw_206 : Cond.selects RX0 yX0_isAble yX0_isAble ∈ xTs := x_memL xWk_3 26 rfl
theorem xw_207 : Cond.code yX0_isAble cX0_isAble 1 (some .boolean) ∈ xTs := x_memL xWk_3 27 rfl
theorem xw_208 : Cond.fieldLink RX9 201 "IceBoats$Boat" "way" "I" ∈ xTs := x_memL xWk_3 28 rfl
theorem xw_209 : Cond.methodLink RX9 204 yX9_moveBoat ∈ xTs := x_memL xWk_3 29 rfl
theorem xw_210 : Cond.instanceMethod yX9_moveBoat ∈ xTs := x_memL xWk_3 30 rfl
theorem xw_211 : Cond.selects RX9 yX9_moveBoat yX9_moveBoat ∈ xTs := x_memL xWk_3 31 rfl
theorem xw_212 : Cond.code yX9_moveBoat cX9_moveBoat 3 none ∈ xTs := x_memL xWk_3 32 rfl
theorem xw_213 : Cond.methodLink RX9 208 yX9_hearWhatComes ∈ xTs := x_memL xWk_3 33 rfl
theorem xw_214 : Cond.instanceMethod yX9_hearWhatComes ∈ xTs := x_memL xWk_3 34 rfl
theorem xw_215 : Cond.selects RX9 yX9_hearWhatComes yX9_hearWhatComes ∈ xTs := x_memL xWk_3 35 rfl
theorem xw_216 : Cond.code yX9_hearWhatComes cX9_hearWhatComes 5 (some .int) ∈ xTs := x_memL xWk_3 36 rfl
theorem xw_217 : Cond.methodLink RX9 211 yX0_failIfDue ∈ xTs := x_memL xWk_3 37 rfl
theorem xw_218 : Cond.instanceMethod yX0_failIfDue ∈ xTs := x_memL xWk_3 38 rfl
theorem xw_219 : Cond.selects RX0 yX0_failIfDue yX0_failIfDue ∈ xTs := x_memL xWk_3 39 rfl
theorem xw_220 : Cond.code yX0_failIfDue cX0_failIfDue 2 none ∈ xTs := x_memL xWk_3 40 rfl
theorem xw_221 : Cond.methodLink RX9 479 yX6_leadsTo ∈ xTs := x_memL xWk_3 41 rfl
theorem xw_222 : Cond.instanceMethod yX6_leadsTo ∈ xTs := x_memL xWk_3 42 rfl
theorem xw_223 : Cond.selects RX6 yX6_leadsTo yX6_leadsTo ∈ xTs := x_memL xWk_3 43 rfl
theorem xw_224 : Cond.code yX6_leadsTo cX6_leadsTo 5 (some .int) ∈ xTs := x_memL xWk_3 44 rfl
theorem xw_225 : Cond.methodLink RX9 482 yX9_lotCarries ∈ xTs := x_memL xWk_3 45 rfl
theorem xw_226 : Cond.instanceMethod yX9_lotCarries ∈ xTs := x_memL xWk_3 46 rfl
theorem xw_227 : Cond.selects RX9 yX9_lotCarries yX9_lotCarries ∈ xTs := x_memL xWk_3 47 rfl
theorem xw_228 : Cond.code yX9_lotCarries cX9_lotCarries 1 (some .boolean) ∈ xTs := x_memL xWk_3 48 rfl
theorem xw_229 : Cond.methodLink RX9 485 yX6_carriedFrom ∈ xTs := x_memL xWk_3 49 rfl
theorem xw_230 : Cond.instanceMethod yX6_carriedFrom ∈ xTs := x_memL xWk_3 50 rfl
theorem xw_231 : Cond.selects RX6 yX6_carriedFrom yX6_carriedFrom ∈ xTs := x_memL xWk_3 51 rfl
theorem xw_232 : Cond.code yX6_carriedFrom cX6_carriedFrom 2 (some .int) ∈ xTs := x_memL xWk_3 52 rfl
theorem xw_233 : Cond.methodLink RX9 488 yX6_couldBehind ∈ xTs := x_memL xWk_3 53 rfl
theorem xw_234 : Cond.instanceMethod yX6_couldBehind ∈ xTs := x_memL xWk_3 54 rfl
theorem xw_235 : Cond.selects RX6 yX6_couldBehind yX6_couldBehind ∈ xTs := x_memL xWk_3 55 rfl
theorem xw_236 : Cond.code yX6_couldBehind cX6_couldBehind 8 (some .long) ∈ xTs := x_memL xWk_3 56 rfl
theorem xw_237 : Cond.constant RX9 492 1103515245 ∈ xTs := x_memL xWk_3 57 rfl
theorem xw_238 : Cond.methodLink RX6 55 yX6_leadsTo ∈ xTs := x_memL xWk_3 58 rfl
theorem xw_239 : Cond.methodLink RX6 59 yX6_carriedFrom ∈ xTs := x_memL xWk_3 59 rfl
def xWl_4 : List (Nat × Cond) := [(292, Cond.fieldLink RX9 267 "IceBoats" "wordCount" "I"),
  (551, Cond.methodLink RX9 493 yX8_comesAt),
  (552, Cond.instanceMethod yX8_comesAt),
  (553, Cond.selects RX8 yX8_comesAt yX8_comesAt),
  (89, Cond.initialized RX8),
  (554, Cond.code yX8_comesAt cX8_comesAt 3 (some .boolean)),
  (555, Cond.methodLink RX9 496 yX9_loseMetWords),
  (557, Cond.instanceMethod yX9_loseMetWords),
  (13, Cond.selects RX9 yX9_loseMetWords yX9_loseMetWords),
  (558, Cond.code yX9_loseMetWords cX9_loseMetWords 3 none),
  (699, Cond.fieldLink RX9 308 "IceBoats$Word" "fate" "[I"),
  (559, Cond.methodLink RX9 499 yX9_takeIn),
  (561, Cond.instanceMethod yX9_takeIn),
  (14, Cond.selects RX9 yX9_takeIn yX9_takeIn),
  (562, Cond.code yX9_takeIn cX9_takeIn 4 none),
  (698, Cond.fieldLink RX8 15 "IceBoats$Word" "fate" "[I"),
  (696, Cond.fieldLink RX8 9 "IceBoats$Word" "comes" "[I"),
  (687, Cond.fieldLink RX9 282 "IceBoats$Word" "kind" "I"),
  (695, Cond.fieldLink RX9 286 "IceBoats$Word" "sayerCould" "J"),
  (691, Cond.fieldLink RX9 503 "IceBoats$Word" "when" "I"),
  (563, Cond.methodLink RX9 504 yX6_cellsAtTime),
  (564, Cond.instanceMethod yX6_cellsAtTime),
  (565, Cond.selects RX6 yX6_cellsAtTime yX6_cellsAtTime),
  (566, Cond.code yX6_cellsAtTime cX6_cellsAtTime 8 (some .long)),
  (581, Cond.methodLink RX9 242 yX0_keepCould),
  (582, Cond.instanceMethod yX0_keepCould),
  (583, Cond.selects RX0 yX0_keepCould yX0_keepCould),
  (584, Cond.code yX0_keepCould cX0_keepCould 3 none),
  (693, Cond.fieldLink RX9 289 "IceBoats$Word" "v" "I"),
  (585, Cond.methodLink RX9 507 yX9_holdLook),
  (587, Cond.instanceMethod yX9_holdLook),
  (15, Cond.selects RX9 yX9_holdLook yX9_holdLook),
  (588, Cond.code yX9_holdLook cX9_holdLook 4 none),
  (593, Cond.methodLink RX9 347 yX9_leastCell),
  (594, Cond.static yX9_leastCell),
  (595, Cond.code yX9_leastCell cX9_leastCell 2 (some .int)),
  (596, Cond.methodLink RX9 350 yX6_wayNearer),
  (597, Cond.instanceMethod yX6_wayNearer),
  (598, Cond.selects RX6 yX6_wayNearer yX6_wayNearer),
  (599, Cond.code yX6_wayNearer cX6_wayNearer 5 (some .int)),
  (567, Cond.methodLink RX6 75 yX7_beginIn),
  (568, Cond.instanceMethod yX7_beginIn),
  (569, Cond.selects RX7 yX7_beginIn yX7_beginIn),
  (570, Cond.code yX7_beginIn cX7_beginIn 3 none),
  (571, Cond.methodLink RX6 82 yX7_spread),
  (572, Cond.instanceMethod yX7_spread),
  (573, Cond.selects RX7 yX7_spread yX7_spread),
  (574, Cond.code yX7_spread cX7_spread 5 none),
  (114, Cond.fieldLink RX6 79 "IceBoats$Wave" "fronts" "[J"),
  (115, Cond.fieldLink RX7 15 "IceBoats$Wave" "reached" "J"),
  (575, Cond.methodLink RX7 19 yX7_besides),
  (576, Cond.static yX7_besides),
  (577, Cond.code yX7_besides cX7_besides 2 (some .long)),
  (132, Cond.fieldLink RX7 23 "IceBoats$Sea" "cellsOfWarmth" "[J"),
  (135, Cond.fieldLink RX7 28 "IceBoats$Sea" "rocks" "J"),
  (580, Cond.constantLong RX7 31 (-1)),
  (578, Cond.constantLong RX7 33 (-72340172838076674)),
  (579, Cond.constantLong RX7 35 9187201950435737471),
  (589, Cond.methodLink RX9 227 yX9_lookAt),
  (591, Cond.instanceMethod yX9_lookAt)]
theorem xWk_4 : xWl_4.all (fun q => decide (lw_tbl[q.1]? = some q.2) && goodWord q.2) = true := by decide +kernel
theorem xw_240 : Cond.fieldLink RX9 267 "IceBoats" "wordCount" "I" ∈ xTs := x_memL xWk_4 0 rfl
theorem xw_241 : Cond.methodLink RX9 493 yX8_comesAt ∈ xTs := x_memL xWk_4 1 rfl
theorem xw_242 : Cond.instanceMethod yX8_comesAt ∈ xTs := x_memL xWk_4 2 rfl
theorem xw_243 : Cond.selects RX8 yX8_comesAt yX8_comesAt ∈ xTs := x_memL xWk_4 3 rfl
theorem xw_244 : Cond.initialized RX8 ∈ xTs := x_memL xWk_4 4 rfl
theorem xw_245 : Cond.code yX8_comesAt cX8_comesAt 3 (some .boolean) ∈ xTs := x_memL xWk_4 5 rfl
theorem xw_246 : Cond.methodLink RX9 496 yX9_loseMetWords ∈ xTs := x_memL xWk_4 6 rfl
theorem xw_247 : Cond.instanceMethod yX9_loseMetWords ∈ xTs := x_memL xWk_4 7 rfl
theorem xw_248 : Cond.selects RX9 yX9_loseMetWords yX9_loseMetWords ∈ xTs := x_memL xWk_4 8 rfl
theorem xw_249 : Cond.code yX9_loseMetWords cX9_loseMetWords 3 none ∈ xTs := x_memL xWk_4 9 rfl
theorem xw_250 : Cond.fieldLink RX9 308 "IceBoats$Word" "fate" "[I" ∈ xTs := x_memL xWk_4 10 rfl
theorem xw_251 : Cond.methodLink RX9 499 yX9_takeIn ∈ xTs := x_memL xWk_4 11 rfl
theorem xw_252 : Cond.instanceMethod yX9_takeIn ∈ xTs := x_memL xWk_4 12 rfl
theorem xw_253 : Cond.selects RX9 yX9_takeIn yX9_takeIn ∈ xTs := x_memL xWk_4 13 rfl
theorem xw_254 : Cond.code yX9_takeIn cX9_takeIn 4 none ∈ xTs := x_memL xWk_4 14 rfl
theorem xw_255 : Cond.fieldLink RX8 15 "IceBoats$Word" "fate" "[I" ∈ xTs := x_memL xWk_4 15 rfl
theorem xw_256 : Cond.fieldLink RX8 9 "IceBoats$Word" "comes" "[I" ∈ xTs := x_memL xWk_4 16 rfl
theorem xw_257 : Cond.fieldLink RX9 282 "IceBoats$Word" "kind" "I" ∈ xTs := x_memL xWk_4 17 rfl
theorem xw_258 : Cond.fieldLink RX9 286 "IceBoats$Word" "sayerCould" "J" ∈ xTs := x_memL xWk_4 18 rfl
theorem xw_259 : Cond.fieldLink RX9 503 "IceBoats$Word" "when" "I" ∈ xTs := x_memL xWk_4 19 rfl
theorem xw_260 : Cond.methodLink RX9 504 yX6_cellsAtTime ∈ xTs := x_memL xWk_4 20 rfl
theorem xw_261 : Cond.instanceMethod yX6_cellsAtTime ∈ xTs := x_memL xWk_4 21 rfl
theorem xw_262 : Cond.selects RX6 yX6_cellsAtTime yX6_cellsAtTime ∈ xTs := x_memL xWk_4 22 rfl
theorem xw_263 : Cond.code yX6_cellsAtTime cX6_cellsAtTime 8 (some .long) ∈ xTs := x_memL xWk_4 23 rfl
theorem xw_264 : Cond.methodLink RX9 242 yX0_keepCould ∈ xTs := x_memL xWk_4 24 rfl
theorem xw_265 : Cond.instanceMethod yX0_keepCould ∈ xTs := x_memL xWk_4 25 rfl
theorem xw_266 : Cond.selects RX0 yX0_keepCould yX0_keepCould ∈ xTs := x_memL xWk_4 26 rfl
theorem xw_267 : Cond.code yX0_keepCould cX0_keepCould 3 none ∈ xTs := x_memL xWk_4 27 rfl
theorem xw_268 : Cond.fieldLink RX9 289 "IceBoats$Word" "v" "I" ∈ xTs := x_memL xWk_4 28 rfl
theorem xw_269 : Cond.methodLink RX9 507 yX9_holdLook ∈ xTs := x_memL xWk_4 29 rfl
theorem xw_270 : Cond.instanceMethod yX9_holdLook ∈ xTs := x_memL xWk_4 30 rfl
theorem xw_271 : Cond.selects RX9 yX9_holdLook yX9_holdLook ∈ xTs := x_memL xWk_4 31 rfl
theorem xw_272 : Cond.code yX9_holdLook cX9_holdLook 4 none ∈ xTs := x_memL xWk_4 32 rfl
theorem xw_273 : Cond.methodLink RX9 347 yX9_leastCell ∈ xTs := x_memL xWk_4 33 rfl
theorem xw_274 : Cond.static yX9_leastCell ∈ xTs := x_memL xWk_4 34 rfl
theorem xw_275 : Cond.code yX9_leastCell cX9_leastCell 2 (some .int) ∈ xTs := x_memL xWk_4 35 rfl
theorem xw_276 : Cond.methodLink RX9 350 yX6_wayNearer ∈ xTs := x_memL xWk_4 36 rfl
theorem xw_277 : Cond.instanceMethod yX6_wayNearer ∈ xTs := x_memL xWk_4 37 rfl
theorem xw_278 : Cond.selects RX6 yX6_wayNearer yX6_wayNearer ∈ xTs := x_memL xWk_4 38 rfl
theorem xw_279 : Cond.code yX6_wayNearer cX6_wayNearer 5 (some .int) ∈ xTs := x_memL xWk_4 39 rfl
theorem xw_280 : Cond.methodLink RX6 75 yX7_beginIn ∈ xTs := x_memL xWk_4 40 rfl
theorem xw_281 : Cond.instanceMethod yX7_beginIn ∈ xTs := x_memL xWk_4 41 rfl
theorem xw_282 : Cond.selects RX7 yX7_beginIn yX7_beginIn ∈ xTs := x_memL xWk_4 42 rfl
theorem xw_283 : Cond.code yX7_beginIn cX7_beginIn 3 none ∈ xTs := x_memL xWk_4 43 rfl
theorem xw_284 : Cond.methodLink RX6 82 yX7_spread ∈ xTs := x_memL xWk_4 44 rfl
theorem xw_285 : Cond.instanceMethod yX7_spread ∈ xTs := x_memL xWk_4 45 rfl
theorem xw_286 : Cond.selects RX7 yX7_spread yX7_spread ∈ xTs := x_memL xWk_4 46 rfl
theorem xw_287 : Cond.code yX7_spread cX7_spread 5 none ∈ xTs := x_memL xWk_4 47 rfl
theorem xw_288 : Cond.fieldLink RX6 79 "IceBoats$Wave" "fronts" "[J" ∈ xTs := x_memL xWk_4 48 rfl
theorem xw_289 : Cond.fieldLink RX7 15 "IceBoats$Wave" "reached" "J" ∈ xTs := x_memL xWk_4 49 rfl
theorem xw_290 : Cond.methodLink RX7 19 yX7_besides ∈ xTs := x_memL xWk_4 50 rfl
theorem xw_291 : Cond.static yX7_besides ∈ xTs := x_memL xWk_4 51 rfl
theorem xw_292 : Cond.code yX7_besides cX7_besides 2 (some .long) ∈ xTs := x_memL xWk_4 52 rfl
theorem xw_293 : Cond.fieldLink RX7 23 "IceBoats$Sea" "cellsOfWarmth" "[J" ∈ xTs := x_memL xWk_4 53 rfl
theorem xw_294 : Cond.fieldLink RX7 28 "IceBoats$Sea" "rocks" "J" ∈ xTs := x_memL xWk_4 54 rfl
theorem xw_295 : Cond.constantLong RX7 31 (-1) ∈ xTs := x_memL xWk_4 55 rfl
theorem xw_296 : Cond.constantLong RX7 33 (-72340172838076674) ∈ xTs := x_memL xWk_4 56 rfl
theorem xw_297 : Cond.constantLong RX7 35 9187201950435737471 ∈ xTs := x_memL xWk_4 57 rfl
theorem xw_298 : Cond.methodLink RX9 227 yX9_lookAt ∈ xTs := x_memL xWk_4 58 rfl
theorem xw_299 : Cond.instanceMethod yX9_lookAt ∈ xTs := x_memL xWk_4 59 rfl
def xWl_5 : List (Nat × Cond) := [(16, Cond.selects RX9 yX9_lookAt yX9_lookAt),
  (592, Cond.code yX9_lookAt cX9_lookAt 2 (some (.object "IceBoats$Look"))),
  (601, Cond.static yX9_stepsBetween),
  (602, Cond.code yX9_stepsBetween cX9_stepsBetween 2 (some .int)),
  (603, Cond.methodLink RX9 470 (⟨"java/lang/Math", "abs", "(I)I"⟩ : MethodName)),
  (604, Cond.static (⟨"java/lang/Math", "abs", "(I)I"⟩ : MethodName)),
  (87, Cond.initialized "java/lang/Math"),
  (605, Cond.code (⟨"java/lang/Math", "abs", "(I)I"⟩ : MethodName) prog_15_method_59_code 1 (some .int)),
  (610, Cond.methodLink RX0 41 yX0_isAble),
  (158, Cond.classLink RX9 37 RX2),
  (615, Cond.instantiable RX2 4),
  (88, Cond.initialized RX2),
  (616, Cond.methodLink RX9 221 yX2_init),
  (617, Cond.instanceMethod yX2_init),
  (618, Cond.code yX2_init cX2_init 5 none),
  (256, Cond.fieldLink RX9 223 "IceBoats$Boat" "latestLook" "LIceBoats$Look;"),
  (619, Cond.methodLink RX2 1 Lib.objectInit),
  (620, Cond.fieldLink RX2 7 "IceBoats$Look" "cell" "I"),
  (622, Cond.fieldLink RX2 13 "IceBoats$Look" "ice" "I"),
  (624, Cond.fieldLink RX2 16 "IceBoats$Look" "when" "I"),
  (626, Cond.fieldLink RX2 19 "IceBoats$Look" "holders" "I"),
  (641, Cond.methodLink RX9 231 yX2_tellOf),
  (642, Cond.instanceMethod yX2_tellOf),
  (643, Cond.selects RX2 yX2_tellOf yX2_tellOf),
  (644, Cond.code yX2_tellOf cX2_tellOf 2 (some .int)),
  (625, Cond.fieldLink RX9 233 "IceBoats$Look" "when" "I"),
  (623, Cond.fieldLink RX9 236 "IceBoats$Look" "ice" "I"),
  (649, Cond.methodLink RX9 238 yX6_cellsChartedAs),
  (650, Cond.instanceMethod yX6_cellsChartedAs),
  (651, Cond.selects RX6 yX6_cellsChartedAs yX6_cellsChartedAs),
  (652, Cond.code yX6_cellsChartedAs cX6_cellsChartedAs 5 (some .long)),
  (661, Cond.methodLink RX9 251 yX9_isOpenCell),
  (663, Cond.instanceMethod yX9_isOpenCell),
  (17, Cond.selects RX9 yX9_isOpenCell yX9_isOpenCell),
  (664, Cond.code yX9_isOpenCell cX9_isOpenCell 2 (some .boolean)),
  (665, Cond.methodLink RX9 254 yX6_soundTime),
  (666, Cond.instanceMethod yX6_soundTime),
  (667, Cond.selects RX6 yX6_soundTime yX6_soundTime),
  (668, Cond.code yX6_soundTime cX6_soundTime 5 (some .int)),
  (673, Cond.methodLink RX9 258 yX9_fitsWord),
  (675, Cond.instanceMethod yX9_fitsWord),
  (18, Cond.selects RX9 yX9_fitsWord yX9_fitsWord),
  (676, Cond.code yX9_fitsWord cX9_fitsWord 3 (some .boolean)),
  (251, Cond.fieldLink RX9 261 "IceBoats$Boat" "lastSpoke" "I"),
  (677, Cond.methodLink RX9 264 yX9_holdsLook),
  (679, Cond.instanceMethod yX9_holdsLook),
  (19, Cond.selects RX9 yX9_holdsLook yX9_holdsLook),
  (680, Cond.code yX9_holdsLook cX9_holdsLook 4 (some .boolean)),
  (156, Cond.classLink RX9 31 RX8),
  (681, Cond.instantiable RX8 7),
  (682, Cond.methodLink RX9 270 yX8_init),
  (683, Cond.instanceMethod yX8_init),
  (684, Cond.code yX8_init cX8_init 7 none),
  (715, Cond.methodLink RX9 273 yX9_sendWord),
  (717, Cond.instanceMethod yX9_sendWord),
  (20, Cond.selects RX9 yX9_sendWord yX9_sendWord),
  (718, Cond.code yX9_sendWord cX9_sendWord 5 none),
  (685, Cond.methodLink RX8 3 Lib.objectInit),
  (686, Cond.fieldLink RX8 18 "IceBoats$Word" "kind" "I"),
  (688, Cond.fieldLink RX8 22 "IceBoats$Word" "sayer" "I")]
theorem xWk_5 : xWl_5.all (fun q => decide (lw_tbl[q.1]? = some q.2) && goodWord q.2) = true := by decide +kernel
theorem xw_300 : Cond.selects RX9 yX9_lookAt yX9_lookAt ∈ xTs := x_memL xWk_5 0 rfl
theorem xw_301 : Cond.code yX9_lookAt cX9_lookAt 2 (some (.object "IceBoats$Look")) ∈ xTs := x_memL xWk_5 1 rfl
theorem xw_302 : Cond.static yX9_stepsBetween ∈ xTs := x_memL xWk_5 2 rfl
theorem xw_303 : Cond.code yX9_stepsBetween cX9_stepsBetween 2 (some .int) ∈ xTs := x_memL xWk_5 3 rfl
theorem xw_304 : Cond.methodLink RX9 470 (⟨"java/lang/Math", "abs", "(I)I"⟩ : MethodName) ∈ xTs := x_memL xWk_5 4 rfl
theorem xw_305 : Cond.static (⟨"java/lang/Math", "abs", "(I)I"⟩ : MethodName) ∈ xTs := x_memL xWk_5 5 rfl
theorem xw_306 : Cond.initialized "java/lang/Math" ∈ xTs := x_memL xWk_5 6 rfl
theorem xw_307 : Cond.code (⟨"java/lang/Math", "abs", "(I)I"⟩ : MethodName) prog_15_method_59_code 1 (some .int) ∈ xTs := x_memL xWk_5 7 rfl
theorem xw_308 : Cond.methodLink RX0 41 yX0_isAble ∈ xTs := x_memL xWk_5 8 rfl
theorem xw_309 : Cond.classLink RX9 37 RX2 ∈ xTs := x_memL xWk_5 9 rfl
theorem xw_310 : Cond.instantiable RX2 4 ∈ xTs := x_memL xWk_5 10 rfl
theorem xw_311 : Cond.initialized RX2 ∈ xTs := x_memL xWk_5 11 rfl
theorem xw_312 : Cond.methodLink RX9 221 yX2_init ∈ xTs := x_memL xWk_5 12 rfl
theorem xw_313 : Cond.instanceMethod yX2_init ∈ xTs := x_memL xWk_5 13 rfl
theorem xw_314 : Cond.code yX2_init cX2_init 5 none ∈ xTs := x_memL xWk_5 14 rfl
theorem xw_315 : Cond.fieldLink RX9 223 "IceBoats$Boat" "latestLook" "LIceBoats$Look;" ∈ xTs := x_memL xWk_5 15 rfl
theorem xw_316 : Cond.methodLink RX2 1 Lib.objectInit ∈ xTs := x_memL xWk_5 16 rfl
theorem xw_317 : Cond.fieldLink RX2 7 "IceBoats$Look" "cell" "I" ∈ xTs := x_memL xWk_5 17 rfl
theorem xw_318 : Cond.fieldLink RX2 13 "IceBoats$Look" "ice" "I" ∈ xTs := x_memL xWk_5 18 rfl
theorem xw_319 : Cond.fieldLink RX2 16 "IceBoats$Look" "when" "I" ∈ xTs := x_memL xWk_5 19 rfl
theorem xw_320 : Cond.fieldLink RX2 19 "IceBoats$Look" "holders" "I" ∈ xTs := x_memL xWk_5 20 rfl
theorem xw_321 : Cond.methodLink RX9 231 yX2_tellOf ∈ xTs := x_memL xWk_5 21 rfl
theorem xw_322 : Cond.instanceMethod yX2_tellOf ∈ xTs := x_memL xWk_5 22 rfl
theorem xw_323 : Cond.selects RX2 yX2_tellOf yX2_tellOf ∈ xTs := x_memL xWk_5 23 rfl
theorem xw_324 : Cond.code yX2_tellOf cX2_tellOf 2 (some .int) ∈ xTs := x_memL xWk_5 24 rfl
theorem xw_325 : Cond.fieldLink RX9 233 "IceBoats$Look" "when" "I" ∈ xTs := x_memL xWk_5 25 rfl
theorem xw_326 : Cond.fieldLink RX9 236 "IceBoats$Look" "ice" "I" ∈ xTs := x_memL xWk_5 26 rfl
theorem xw_327 : Cond.methodLink RX9 238 yX6_cellsChartedAs ∈ xTs := x_memL xWk_5 27 rfl
theorem xw_328 : Cond.instanceMethod yX6_cellsChartedAs ∈ xTs := x_memL xWk_5 28 rfl
theorem xw_329 : Cond.selects RX6 yX6_cellsChartedAs yX6_cellsChartedAs ∈ xTs := x_memL xWk_5 29 rfl
theorem xw_330 : Cond.code yX6_cellsChartedAs cX6_cellsChartedAs 5 (some .long) ∈ xTs := x_memL xWk_5 30 rfl
theorem xw_331 : Cond.methodLink RX9 251 yX9_isOpenCell ∈ xTs := x_memL xWk_5 31 rfl
theorem xw_332 : Cond.instanceMethod yX9_isOpenCell ∈ xTs := x_memL xWk_5 32 rfl
theorem xw_333 : Cond.selects RX9 yX9_isOpenCell yX9_isOpenCell ∈ xTs := x_memL xWk_5 33 rfl
theorem xw_334 : Cond.code yX9_isOpenCell cX9_isOpenCell 2 (some .boolean) ∈ xTs := x_memL xWk_5 34 rfl
theorem xw_335 : Cond.methodLink RX9 254 yX6_soundTime ∈ xTs := x_memL xWk_5 35 rfl
theorem xw_336 : Cond.instanceMethod yX6_soundTime ∈ xTs := x_memL xWk_5 36 rfl
theorem xw_337 : Cond.selects RX6 yX6_soundTime yX6_soundTime ∈ xTs := x_memL xWk_5 37 rfl
theorem xw_338 : Cond.code yX6_soundTime cX6_soundTime 5 (some .int) ∈ xTs := x_memL xWk_5 38 rfl
theorem xw_339 : Cond.methodLink RX9 258 yX9_fitsWord ∈ xTs := x_memL xWk_5 39 rfl
theorem xw_340 : Cond.instanceMethod yX9_fitsWord ∈ xTs := x_memL xWk_5 40 rfl
theorem xw_341 : Cond.selects RX9 yX9_fitsWord yX9_fitsWord ∈ xTs := x_memL xWk_5 41 rfl
theorem xw_342 : Cond.code yX9_fitsWord cX9_fitsWord 3 (some .boolean) ∈ xTs := x_memL xWk_5 42 rfl
theorem xw_343 : Cond.fieldLink RX9 261 "IceBoats$Boat" "lastSpoke" "I" ∈ xTs := x_memL xWk_5 43 rfl
theorem xw_344 : Cond.methodLink RX9 264 yX9_holdsLook ∈ xTs := x_memL xWk_5 44 rfl
theorem xw_345 : Cond.instanceMethod yX9_holdsLook ∈ xTs := x_memL xWk_5 45 rfl
theorem xw_346 : Cond.selects RX9 yX9_holdsLook yX9_holdsLook ∈ xTs := x_memL xWk_5 46 rfl
theorem xw_347 : Cond.code yX9_holdsLook cX9_holdsLook 4 (some .boolean) ∈ xTs := x_memL xWk_5 47 rfl
theorem xw_348 : Cond.classLink RX9 31 RX8 ∈ xTs := x_memL xWk_5 48 rfl
theorem xw_349 : Cond.instantiable RX8 7 ∈ xTs := x_memL xWk_5 49 rfl
theorem xw_350 : Cond.methodLink RX9 270 yX8_init ∈ xTs := x_memL xWk_5 50 rfl
theorem xw_351 : Cond.instanceMethod yX8_init ∈ xTs := x_memL xWk_5 51 rfl
theorem xw_352 : Cond.code yX8_init cX8_init 7 none ∈ xTs := x_memL xWk_5 52 rfl
theorem xw_353 : Cond.methodLink RX9 273 yX9_sendWord ∈ xTs := x_memL xWk_5 53 rfl
theorem xw_354 : Cond.instanceMethod yX9_sendWord ∈ xTs := x_memL xWk_5 54 rfl
theorem xw_355 : Cond.selects RX9 yX9_sendWord yX9_sendWord ∈ xTs := x_memL xWk_5 55 rfl
theorem xw_356 : Cond.code yX9_sendWord cX9_sendWord 5 none ∈ xTs := x_memL xWk_5 56 rfl
theorem xw_357 : Cond.methodLink RX8 3 Lib.objectInit ∈ xTs := x_memL xWk_5 57 rfl
theorem xw_358 : Cond.fieldLink RX8 18 "IceBoats$Word" "kind" "I" ∈ xTs := x_memL xWk_5 58 rfl
theorem xw_359 : Cond.fieldLink RX8 22 "IceBoats$Word" "sayer" "I" ∈ xTs := x_memL xWk_5 59 rfl
def xWl_6 : List (Nat × Cond) := [(690, Cond.fieldLink RX8 25 "IceBoats$Word" "when" "I"),
  (692, Cond.fieldLink RX8 28 "IceBoats$Word" "v" "I"),
  (694, Cond.fieldLink RX8 31 "IceBoats$Word" "sayerCould" "J"),
  (689, Cond.fieldLink RX9 299 "IceBoats$Word" "sayer" "I"),
  (697, Cond.fieldLink RX9 510 "IceBoats$Word" "comes" "[I"),
  (719, Cond.methodLink RX9 332 (⟨"java/lang/Math", "max", "(II)I"⟩ : MethodName)),
  (720, Cond.static (⟨"java/lang/Math", "max", "(II)I"⟩ : MethodName)),
  (721, Cond.code (⟨"java/lang/Math", "max", "(II)I"⟩ : MethodName) prog_15_method_65_code 2 (some .int)),
  (726, Cond.methodLink RX9 277 yX9_wordAt),
  (728, Cond.instanceMethod yX9_wordAt),
  (21, Cond.selects RX9 yX9_wordAt yX9_wordAt),
  (729, Cond.code yX9_wordAt cX9_wordAt 2 (some (.object "IceBoats$Word"))),
  (730, Cond.methodLink RX9 281 yX8_tellOf),
  (731, Cond.instanceMethod yX8_tellOf),
  (732, Cond.selects RX8 yX8_tellOf yX8_tellOf),
  (733, Cond.code yX8_tellOf cX8_tellOf 2 (some .int)),
  (738, Cond.fieldLink RX9 283 "IceBoats" "WORD_KIND_ABOVE" "[I"),
  (740, Cond.methodLink RX9 292 yX9_iceOfLook),
  (742, Cond.instanceMethod yX9_iceOfLook),
  (22, Cond.selects RX9 yX9_iceOfLook yX9_iceOfLook),
  (743, Cond.code yX9_iceOfLook cX9_iceOfLook 3 (some .int)),
  (744, Cond.methodLink RX9 295 yX8_hearers),
  (745, Cond.instanceMethod yX8_hearers),
  (746, Cond.selects RX8 yX8_hearers yX8_hearers),
  (747, Cond.code yX8_hearers cX8_hearers 3 (some .int)),
  (748, Cond.methodLink RX9 302 yX9_stepsBetween),
  (757, Cond.methodLink RX9 311 yX9_isBoatOrNone),
  (758, Cond.static yX9_isBoatOrNone),
  (759, Cond.code yX9_isBoatOrNone cX9_isBoatOrNone 1 (some .boolean)),
  (760, Cond.methodLink RX9 314 yX8_knownBy),
  (761, Cond.instanceMethod yX8_knownBy),
  (762, Cond.selects RX8 yX8_knownBy yX8_knownBy),
  (763, Cond.code yX8_knownBy cX8_knownBy 2 (some .int)),
  (764, Cond.methodLink RX9 317 yX9_knownOf),
  (766, Cond.instanceMethod yX9_knownOf),
  (23, Cond.selects RX9 yX9_knownOf yX9_knownOf),
  (767, Cond.code yX9_knownOf cX9_knownOf 5 (some .int)),
  (772, Cond.methodLink RX9 321 yX9_knownOfKnown),
  (774, Cond.instanceMethod yX9_knownOfKnown),
  (25, Cond.selects RX9 yX9_knownOfKnown yX9_knownOfKnown),
  (775, Cond.code yX9_knownOfKnown cX9_knownOfKnown 6 (some .int)),
  (768, Cond.methodLink RX9 513 yX9_firstHeardFrom),
  (770, Cond.instanceMethod yX9_firstHeardFrom),
  (24, Cond.selects RX9 yX9_firstHeardFrom yX9_firstHeardFrom),
  (771, Cond.code yX9_firstHeardFrom cX9_firstHeardFrom 8 (some .int)),
  (780, Cond.methodLink RX9 329 yX9_knownOfAll),
  (782, Cond.instanceMethod yX9_knownOfAll),
  (26, Cond.selects RX9 yX9_knownOfAll yX9_knownOfAll),
  (783, Cond.code yX9_knownOfAll cX9_knownOfAll 7 (some .int)),
  (784, Cond.methodLink RX9 516 yX9_laterOrNone),
  (785, Cond.static yX9_laterOrNone),
  (786, Cond.code yX9_laterOrNone cX9_laterOrNone 2 (some .int)),
  (791, Cond.methodLink RX9 337 yX5_readRules),
  (792, Cond.instanceMethod yX5_readRules),
  (793, Cond.selects RX5 yX5_readRules yX5_readRules),
  (794, Cond.code yX5_readRules cX5_readRules 6 (some .int)),
  (223, Cond.fieldLink RX5 15 "IceBoats$Row" "size" "I"),
  (219, Cond.fieldLink RX5 21 "IceBoats$Row" "places" "[I"),
  (795, Cond.methodLink RX5 24 yX5_letterOf),
  (796, Cond.static yX5_letterOf)]
theorem xWk_6 : xWl_6.all (fun q => decide (lw_tbl[q.1]? = some q.2) && goodWord q.2) = true := by decide +kernel
theorem xw_360 : Cond.fieldLink RX8 25 "IceBoats$Word" "when" "I" ∈ xTs := x_memL xWk_6 0 rfl
theorem xw_361 : Cond.fieldLink RX8 28 "IceBoats$Word" "v" "I" ∈ xTs := x_memL xWk_6 1 rfl
theorem xw_362 : Cond.fieldLink RX8 31 "IceBoats$Word" "sayerCould" "J" ∈ xTs := x_memL xWk_6 2 rfl
theorem xw_363 : Cond.fieldLink RX9 299 "IceBoats$Word" "sayer" "I" ∈ xTs := x_memL xWk_6 3 rfl
theorem xw_364 : Cond.fieldLink RX9 510 "IceBoats$Word" "comes" "[I" ∈ xTs := x_memL xWk_6 4 rfl
theorem xw_365 : Cond.methodLink RX9 332 (⟨"java/lang/Math", "max", "(II)I"⟩ : MethodName) ∈ xTs := x_memL xWk_6 5 rfl
theorem xw_366 : Cond.static (⟨"java/lang/Math", "max", "(II)I"⟩ : MethodName) ∈ xTs := x_memL xWk_6 6 rfl
theorem xw_367 : Cond.code (⟨"java/lang/Math", "max", "(II)I"⟩ : MethodName) prog_15_method_65_code 2 (some .int) ∈ xTs := x_memL xWk_6 7 rfl
theorem xw_368 : Cond.methodLink RX9 277 yX9_wordAt ∈ xTs := x_memL xWk_6 8 rfl
theorem xw_369 : Cond.instanceMethod yX9_wordAt ∈ xTs := x_memL xWk_6 9 rfl
theorem xw_370 : Cond.selects RX9 yX9_wordAt yX9_wordAt ∈ xTs := x_memL xWk_6 10 rfl
theorem xw_371 : Cond.code yX9_wordAt cX9_wordAt 2 (some (.object "IceBoats$Word")) ∈ xTs := x_memL xWk_6 11 rfl
theorem xw_372 : Cond.methodLink RX9 281 yX8_tellOf ∈ xTs := x_memL xWk_6 12 rfl
theorem xw_373 : Cond.instanceMethod yX8_tellOf ∈ xTs := x_memL xWk_6 13 rfl
theorem xw_374 : Cond.selects RX8 yX8_tellOf yX8_tellOf ∈ xTs := x_memL xWk_6 14 rfl
theorem xw_375 : Cond.code yX8_tellOf cX8_tellOf 2 (some .int) ∈ xTs := x_memL xWk_6 15 rfl
theorem xw_376 : Cond.fieldLink RX9 283 "IceBoats" "WORD_KIND_ABOVE" "[I" ∈ xTs := x_memL xWk_6 16 rfl
theorem xw_377 : Cond.methodLink RX9 292 yX9_iceOfLook ∈ xTs := x_memL xWk_6 17 rfl
theorem xw_378 : Cond.instanceMethod yX9_iceOfLook ∈ xTs := x_memL xWk_6 18 rfl
theorem xw_379 : Cond.selects RX9 yX9_iceOfLook yX9_iceOfLook ∈ xTs := x_memL xWk_6 19 rfl
theorem xw_380 : Cond.code yX9_iceOfLook cX9_iceOfLook 3 (some .int) ∈ xTs := x_memL xWk_6 20 rfl
theorem xw_381 : Cond.methodLink RX9 295 yX8_hearers ∈ xTs := x_memL xWk_6 21 rfl
theorem xw_382 : Cond.instanceMethod yX8_hearers ∈ xTs := x_memL xWk_6 22 rfl
theorem xw_383 : Cond.selects RX8 yX8_hearers yX8_hearers ∈ xTs := x_memL xWk_6 23 rfl
theorem xw_384 : Cond.code yX8_hearers cX8_hearers 3 (some .int) ∈ xTs := x_memL xWk_6 24 rfl
theorem xw_385 : Cond.methodLink RX9 302 yX9_stepsBetween ∈ xTs := x_memL xWk_6 25 rfl
theorem xw_386 : Cond.methodLink RX9 311 yX9_isBoatOrNone ∈ xTs := x_memL xWk_6 26 rfl
theorem xw_387 : Cond.static yX9_isBoatOrNone ∈ xTs := x_memL xWk_6 27 rfl
theorem xw_388 : Cond.code yX9_isBoatOrNone cX9_isBoatOrNone 1 (some .boolean) ∈ xTs := x_memL xWk_6 28 rfl
theorem xw_389 : Cond.methodLink RX9 314 yX8_knownBy ∈ xTs := x_memL xWk_6 29 rfl
theorem xw_390 : Cond.instanceMethod yX8_knownBy ∈ xTs := x_memL xWk_6 30 rfl
theorem xw_391 : Cond.selects RX8 yX8_knownBy yX8_knownBy ∈ xTs := x_memL xWk_6 31 rfl
theorem xw_392 : Cond.code yX8_knownBy cX8_knownBy 2 (some .int) ∈ xTs := x_memL xWk_6 32 rfl
theorem xw_393 : Cond.methodLink RX9 317 yX9_knownOf ∈ xTs := x_memL xWk_6 33 rfl
theorem xw_394 : Cond.instanceMethod yX9_knownOf ∈ xTs := x_memL xWk_6 34 rfl
theorem xw_395 : Cond.selects RX9 yX9_knownOf yX9_knownOf ∈ xTs := x_memL xWk_6 35 rfl
theorem xw_396 : Cond.code yX9_knownOf cX9_knownOf 5 (some .int) ∈ xTs := x_memL xWk_6 36 rfl
theorem xw_397 : Cond.methodLink RX9 321 yX9_knownOfKnown ∈ xTs := x_memL xWk_6 37 rfl
theorem xw_398 : Cond.instanceMethod yX9_knownOfKnown ∈ xTs := x_memL xWk_6 38 rfl
theorem xw_399 : Cond.selects RX9 yX9_knownOfKnown yX9_knownOfKnown ∈ xTs := x_memL xWk_6 39 rfl
theorem xw_400 : Cond.code yX9_knownOfKnown cX9_knownOfKnown 6 (some .int) ∈ xTs := x_memL xWk_6 40 rfl
theorem xw_401 : Cond.methodLink RX9 513 yX9_firstHeardFrom ∈ xTs := x_memL xWk_6 41 rfl
theorem xw_402 : Cond.instanceMethod yX9_firstHeardFrom ∈ xTs := x_memL xWk_6 42 rfl
theorem xw_403 : Cond.selects RX9 yX9_firstHeardFrom yX9_firstHeardFrom ∈ xTs := x_memL xWk_6 43 rfl
theorem xw_404 : Cond.code yX9_firstHeardFrom cX9_firstHeardFrom 8 (some .int) ∈ xTs := x_memL xWk_6 44 rfl
theorem xw_405 : Cond.methodLink RX9 329 yX9_knownOfAll ∈ xTs := x_memL xWk_6 45 rfl
theorem xw_406 : Cond.instanceMethod yX9_knownOfAll ∈ xTs := x_memL xWk_6 46 rfl
theorem xw_407 : Cond.selects RX9 yX9_knownOfAll yX9_knownOfAll ∈ xTs := x_memL xWk_6 47 rfl
theorem xw_408 : Cond.code yX9_knownOfAll cX9_knownOfAll 7 (some .int) ∈ xTs := x_memL xWk_6 48 rfl
theorem xw_409 : Cond.methodLink RX9 516 yX9_laterOrNone ∈ xTs := x_memL xWk_6 49 rfl
theorem xw_410 : Cond.static yX9_laterOrNone ∈ xTs := x_memL xWk_6 50 rfl
theorem xw_411 : Cond.code yX9_laterOrNone cX9_laterOrNone 2 (some .int) ∈ xTs := x_memL xWk_6 51 rfl
theorem xw_412 : Cond.methodLink RX9 337 yX5_readRules ∈ xTs := x_memL xWk_6 52 rfl
theorem xw_413 : Cond.instanceMethod yX5_readRules ∈ xTs := x_memL xWk_6 53 rfl
theorem xw_414 : Cond.selects RX5 yX5_readRules yX5_readRules ∈ xTs := x_memL xWk_6 54 rfl
theorem xw_415 : Cond.code yX5_readRules cX5_readRules 6 (some .int) ∈ xTs := x_memL xWk_6 55 rfl
theorem xw_416 : Cond.fieldLink RX5 15 "IceBoats$Row" "size" "I" ∈ xTs := x_memL xWk_6 56 rfl
theorem xw_417 : Cond.fieldLink RX5 21 "IceBoats$Row" "places" "[I" ∈ xTs := x_memL xWk_6 57 rfl
theorem xw_418 : Cond.methodLink RX5 24 yX5_letterOf ∈ xTs := x_memL xWk_6 58 rfl
theorem xw_419 : Cond.static yX5_letterOf ∈ xTs := x_memL xWk_6 59 rfl
def xWl_7 : List (Nat × Cond) := [(797, Cond.code yX5_letterOf cX5_letterOf 2 (some .int)),
  (800, Cond.methodLink RX5 28 yX5_endOfDigits),
  (801, Cond.static yX5_endOfDigits),
  (802, Cond.code yX5_endOfDigits cX5_endOfDigits 3 (some .int)),
  (803, Cond.methodLink RX5 32 yX5_numberIn),
  (804, Cond.static yX5_numberIn),
  (805, Cond.code yX5_numberIn cX5_numberIn 5 (some .int)),
  (237, Cond.fieldLink RX9 341 "IceBoats$Boat" "rules" "[I"),
  (167, Cond.fieldLink RX9 344 "IceBoats$RuleReader" "numbers" "[I"),
  (818, Cond.methodLink RX9 353 yX9_isDueNow),
  (820, Cond.instanceMethod yX9_isDueNow),
  (27, Cond.selects RX9 yX9_isDueNow yX9_isDueNow),
  (821, Cond.code yX9_isDueNow cX9_isDueNow 2 (some .boolean)),
  (826, Cond.methodLink RX9 356 yX9_isMap),
  (827, Cond.static yX9_isMap),
  (828, Cond.code yX9_isMap cX9_isMap 2 (some .boolean)),
  (829, Cond.methodLink RX9 360 yX9_alikePlaces),
  (830, Cond.static yX9_alikePlaces),
  (831, Cond.code yX9_alikePlaces cX9_alikePlaces 10 (some .int)),
  (621, Cond.fieldLink RX9 370 "IceBoats$Look" "cell" "I"),
  (840, Cond.methodLink RX9 371 (⟨"java/lang/Integer", "bitCount", "(I)I"⟩ : MethodName)),
  (841, Cond.static (⟨"java/lang/Integer", "bitCount", "(I)I"⟩ : MethodName)),
  (90, Cond.initialized "java/lang/Integer"),
  (842, Cond.code (⟨"java/lang/Integer", "bitCount", "(I)I"⟩ : MethodName) prog_13_method_49_code 1 (some .int)),
  (846, Cond.methodLink RX9 375 yX9_faultOfPlanRows),
  (848, Cond.instanceMethod yX9_faultOfPlanRows),
  (28, Cond.selects RX9 yX9_faultOfPlanRows yX9_faultOfPlanRows),
  (849, Cond.code yX9_faultOfPlanRows cX9_faultOfPlanRows 5 (some .int)),
  (856, Cond.methodLink RX9 378 yX3_forget),
  (857, Cond.instanceMethod yX3_forget),
  (858, Cond.selects RX3 yX3_forget yX3_forget),
  (859, Cond.code yX3_forget cX3_forget 2 none),
  (860, Cond.methodLink RX9 381 yX9_offerRows),
  (862, Cond.instanceMethod yX9_offerRows),
  (29, Cond.selects RX9 yX9_offerRows yX9_offerRows),
  (863, Cond.code yX9_offerRows cX9_offerRows 5 none),
  (875, Cond.methodLink RX9 385 yX3_choose),
  (876, Cond.instanceMethod yX3_choose),
  (877, Cond.selects RX3 yX3_choose yX3_choose),
  (878, Cond.code yX3_choose cX3_choose 4 none),
  (182, Cond.fieldLink RX9 388 "IceBoats$Planner" "choice" "I"),
  (180, Cond.fieldLink RX9 391 "IceBoats$Planner" "most" "I"),
  (843, Cond.constant "java/lang/Integer" 265 1431655765),
  (844, Cond.constant "java/lang/Integer" 266 858993459),
  (845, Cond.constant "java/lang/Integer" 267 252645135),
  (850, Cond.methodLink RX9 394 yX9_faultOfWays),
  (851, Cond.static yX9_faultOfWays),
  (852, Cond.code yX9_faultOfWays cX9_faultOfWays 2 (some .int)),
  (853, Cond.methodLink RX9 519 yX9_areWays),
  (854, Cond.static yX9_areWays),
  (855, Cond.code yX9_areWays cX9_areWays 2 (some .boolean)),
  (864, Cond.methodLink RX9 522 yX9_powerFor),
  (865, Cond.static yX9_powerFor),
  (866, Cond.code yX9_powerFor cX9_powerFor 3 (some .int)),
  (867, Cond.methodLink RX9 525 yX6_cellsOnTheWay),
  (868, Cond.instanceMethod yX6_cellsOnTheWay),
  (869, Cond.selects RX6 yX6_cellsOnTheWay yX6_cellsOnTheWay),
  (870, Cond.code yX6_cellsOnTheWay cX6_cellsOnTheWay 7 (some .long)),
  (871, Cond.methodLink RX9 529 yX3_offer),
  (872, Cond.instanceMethod yX3_offer)]
theorem xWk_7 : xWl_7.all (fun q => decide (lw_tbl[q.1]? = some q.2) && goodWord q.2) = true := by decide +kernel
theorem xw_420 : Cond.code yX5_letterOf cX5_letterOf 2 (some .int) ∈ xTs := x_memL xWk_7 0 rfl
theorem xw_421 : Cond.methodLink RX5 28 yX5_endOfDigits ∈ xTs := x_memL xWk_7 1 rfl
theorem xw_422 : Cond.static yX5_endOfDigits ∈ xTs := x_memL xWk_7 2 rfl
theorem xw_423 : Cond.code yX5_endOfDigits cX5_endOfDigits 3 (some .int) ∈ xTs := x_memL xWk_7 3 rfl
theorem xw_424 : Cond.methodLink RX5 32 yX5_numberIn ∈ xTs := x_memL xWk_7 4 rfl
theorem xw_425 : Cond.static yX5_numberIn ∈ xTs := x_memL xWk_7 5 rfl
theorem xw_426 : Cond.code yX5_numberIn cX5_numberIn 5 (some .int) ∈ xTs := x_memL xWk_7 6 rfl
theorem xw_427 : Cond.fieldLink RX9 341 "IceBoats$Boat" "rules" "[I" ∈ xTs := x_memL xWk_7 7 rfl
theorem xw_428 : Cond.fieldLink RX9 344 "IceBoats$RuleReader" "numbers" "[I" ∈ xTs := x_memL xWk_7 8 rfl
theorem xw_429 : Cond.methodLink RX9 353 yX9_isDueNow ∈ xTs := x_memL xWk_7 9 rfl
theorem xw_430 : Cond.instanceMethod yX9_isDueNow ∈ xTs := x_memL xWk_7 10 rfl
theorem xw_431 : Cond.selects RX9 yX9_isDueNow yX9_isDueNow ∈ xTs := x_memL xWk_7 11 rfl
theorem xw_432 : Cond.code yX9_isDueNow cX9_isDueNow 2 (some .boolean) ∈ xTs := x_memL xWk_7 12 rfl
theorem xw_433 : Cond.methodLink RX9 356 yX9_isMap ∈ xTs := x_memL xWk_7 13 rfl
theorem xw_434 : Cond.static yX9_isMap ∈ xTs := x_memL xWk_7 14 rfl
theorem xw_435 : Cond.code yX9_isMap cX9_isMap 2 (some .boolean) ∈ xTs := x_memL xWk_7 15 rfl
theorem xw_436 : Cond.methodLink RX9 360 yX9_alikePlaces ∈ xTs := x_memL xWk_7 16 rfl
theorem xw_437 : Cond.static yX9_alikePlaces ∈ xTs := x_memL xWk_7 17 rfl
theorem xw_438 : Cond.code yX9_alikePlaces cX9_alikePlaces 10 (some .int) ∈ xTs := x_memL xWk_7 18 rfl
theorem xw_439 : Cond.fieldLink RX9 370 "IceBoats$Look" "cell" "I" ∈ xTs := x_memL xWk_7 19 rfl
theorem xw_440 : Cond.methodLink RX9 371 (⟨"java/lang/Integer", "bitCount", "(I)I"⟩ : MethodName) ∈ xTs := x_memL xWk_7 20 rfl
theorem xw_441 : Cond.static (⟨"java/lang/Integer", "bitCount", "(I)I"⟩ : MethodName) ∈ xTs := x_memL xWk_7 21 rfl
theorem xw_442 : Cond.initialized "java/lang/Integer" ∈ xTs := x_memL xWk_7 22 rfl
theorem xw_443 : Cond.code (⟨"java/lang/Integer", "bitCount", "(I)I"⟩ : MethodName) prog_13_method_49_code 1 (some .int) ∈ xTs := x_memL xWk_7 23 rfl
theorem xw_444 : Cond.methodLink RX9 375 yX9_faultOfPlanRows ∈ xTs := x_memL xWk_7 24 rfl
theorem xw_445 : Cond.instanceMethod yX9_faultOfPlanRows ∈ xTs := x_memL xWk_7 25 rfl
theorem xw_446 : Cond.selects RX9 yX9_faultOfPlanRows yX9_faultOfPlanRows ∈ xTs := x_memL xWk_7 26 rfl
theorem xw_447 : Cond.code yX9_faultOfPlanRows cX9_faultOfPlanRows 5 (some .int) ∈ xTs := x_memL xWk_7 27 rfl
theorem xw_448 : Cond.methodLink RX9 378 yX3_forget ∈ xTs := x_memL xWk_7 28 rfl
theorem xw_449 : Cond.instanceMethod yX3_forget ∈ xTs := x_memL xWk_7 29 rfl
theorem xw_450 : Cond.selects RX3 yX3_forget yX3_forget ∈ xTs := x_memL xWk_7 30 rfl
theorem xw_451 : Cond.code yX3_forget cX3_forget 2 none ∈ xTs := x_memL xWk_7 31 rfl
theorem xw_452 : Cond.methodLink RX9 381 yX9_offerRows ∈ xTs := x_memL xWk_7 32 rfl
theorem xw_453 : Cond.instanceMethod yX9_offerRows ∈ xTs := x_memL xWk_7 33 rfl
theorem xw_454 : Cond.selects RX9 yX9_offerRows yX9_offerRows ∈ xTs := x_memL xWk_7 34 rfl
theorem xw_455 : Cond.code yX9_offerRows cX9_offerRows 5 none ∈ xTs := x_memL xWk_7 35 rfl
theorem xw_456 : Cond.methodLink RX9 385 yX3_choose ∈ xTs := x_memL xWk_7 36 rfl
theorem xw_457 : Cond.instanceMethod yX3_choose ∈ xTs := x_memL xWk_7 37 rfl
theorem xw_458 : Cond.selects RX3 yX3_choose yX3_choose ∈ xTs := x_memL xWk_7 38 rfl
theorem xw_459 : Cond.code yX3_choose cX3_choose 4 none ∈ xTs := x_memL xWk_7 39 rfl
theorem xw_460 : Cond.fieldLink RX9 388 "IceBoats$Planner" "choice" "I" ∈ xTs := x_memL xWk_7 40 rfl
theorem xw_461 : Cond.fieldLink RX9 391 "IceBoats$Planner" "most" "I" ∈ xTs := x_memL xWk_7 41 rfl
theorem xw_462 : Cond.constant "java/lang/Integer" 265 1431655765 ∈ xTs := x_memL xWk_7 42 rfl
theorem xw_463 : Cond.constant "java/lang/Integer" 266 858993459 ∈ xTs := x_memL xWk_7 43 rfl
theorem xw_464 : Cond.constant "java/lang/Integer" 267 252645135 ∈ xTs := x_memL xWk_7 44 rfl
theorem xw_465 : Cond.methodLink RX9 394 yX9_faultOfWays ∈ xTs := x_memL xWk_7 45 rfl
theorem xw_466 : Cond.static yX9_faultOfWays ∈ xTs := x_memL xWk_7 46 rfl
theorem xw_467 : Cond.code yX9_faultOfWays cX9_faultOfWays 2 (some .int) ∈ xTs := x_memL xWk_7 47 rfl
theorem xw_468 : Cond.methodLink RX9 519 yX9_areWays ∈ xTs := x_memL xWk_7 48 rfl
theorem xw_469 : Cond.static yX9_areWays ∈ xTs := x_memL xWk_7 49 rfl
theorem xw_470 : Cond.code yX9_areWays cX9_areWays 2 (some .boolean) ∈ xTs := x_memL xWk_7 50 rfl
theorem xw_471 : Cond.methodLink RX9 522 yX9_powerFor ∈ xTs := x_memL xWk_7 51 rfl
theorem xw_472 : Cond.static yX9_powerFor ∈ xTs := x_memL xWk_7 52 rfl
theorem xw_473 : Cond.code yX9_powerFor cX9_powerFor 3 (some .int) ∈ xTs := x_memL xWk_7 53 rfl
theorem xw_474 : Cond.methodLink RX9 525 yX6_cellsOnTheWay ∈ xTs := x_memL xWk_7 54 rfl
theorem xw_475 : Cond.instanceMethod yX6_cellsOnTheWay ∈ xTs := x_memL xWk_7 55 rfl
theorem xw_476 : Cond.selects RX6 yX6_cellsOnTheWay yX6_cellsOnTheWay ∈ xTs := x_memL xWk_7 56 rfl
theorem xw_477 : Cond.code yX6_cellsOnTheWay cX6_cellsOnTheWay 7 (some .long) ∈ xTs := x_memL xWk_7 57 rfl
theorem xw_478 : Cond.methodLink RX9 529 yX3_offer ∈ xTs := x_memL xWk_7 58 rfl
theorem xw_479 : Cond.instanceMethod yX3_offer ∈ xTs := x_memL xWk_7 59 rfl
def xWl_8 : List (Nat × Cond) := [(873, Cond.selects RX3 yX3_offer yX3_offer),
  (874, Cond.code yX3_offer cX3_offer 5 none),
  (225, Cond.fieldLink RX6 66 "IceBoats$Row" "size" "I"),
  (221, Cond.fieldLink RX6 72 "IceBoats$Row" "places" "[I"),
  (179, Cond.fieldLink RX3 19 "IceBoats$Planner" "most" "I"),
  (879, Cond.methodLink RX3 23 yX3_weigh),
  (880, Cond.instanceMethod yX3_weigh),
  (881, Cond.selects RX3 yX3_weigh yX3_weigh),
  (882, Cond.code yX3_weigh cX3_weigh 5 none),
  (883, Cond.methodLink RX3 27 (⟨"java/lang/Long", "bitCount", "(J)I"⟩ : MethodName)),
  (181, Cond.fieldLink RX3 33 "IceBoats$Planner" "choice" "I"),
  (888, Cond.methodLink RX9 398 yX1_startIn),
  (889, Cond.instanceMethod yX1_startIn),
  (890, Cond.selects RX1 yX1_startIn yX1_startIn),
  (891, Cond.code yX1_startIn cX1_startIn 2 none),
  (900, Cond.methodLink RX9 401 yX1_follow),
  (901, Cond.instanceMethod yX1_follow),
  (902, Cond.selects RX1 yX1_follow yX1_follow),
  (903, Cond.code yX1_follow cX1_follow 8 none),
  (913, Cond.constantLong RX9 405 4),
  (200, Cond.fieldLink RX9 407 "IceBoats$Drift" "weights" "[I"),
  (914, Cond.methodLink RX9 410 yX9_tellShare),
  (916, Cond.instanceMethod yX9_tellShare),
  (30, Cond.selects RX9 yX9_tellShare yX9_tellShare),
  (917, Cond.code yX9_tellShare cX9_tellShare 10 none),
  (892, Cond.methodLink RX1 24 yX1_clearNext),
  (893, Cond.instanceMethod yX1_clearNext),
  (894, Cond.selects RX1 yX1_clearNext yX1_clearNext),
  (895, Cond.code yX1_clearNext cX1_clearNext 2 none),
  (896, Cond.methodLink RX1 27 yX1_swapNext),
  (897, Cond.instanceMethod yX1_swapNext),
  (898, Cond.selects RX1 yX1_swapNext yX1_swapNext),
  (899, Cond.code yX1_swapNext cX1_swapNext 3 none),
  (904, Cond.methodLink RX1 30 yX6_leadsTo),
  (905, Cond.methodLink RX1 36 yX6_carriedFrom),
  (906, Cond.methodLink RX1 40 yX1_lead),
  (907, Cond.instanceMethod yX1_lead),
  (908, Cond.selects RX1 yX1_lead yX1_lead),
  (909, Cond.code yX1_lead cX1_lead 4 none),
  (910, Cond.methodLink RX1 44 (⟨"java/lang/Math", "min", "(II)I"⟩ : MethodName)),
  (911, Cond.static (⟨"java/lang/Math", "min", "(II)I"⟩ : MethodName)),
  (912, Cond.code (⟨"java/lang/Math", "min", "(II)I"⟩ : MethodName) prog_15_method_69_code 2 (some .int)),
  (918, Cond.constantLong RX9 468 2),
  (299, Cond.fieldLink RX9 431 "IceBoats" "lastUpper" "J"),
  (923, Cond.methodLink RX9 414 yX9_faultOfCourses),
  (924, Cond.static yX9_faultOfCourses),
  (925, Cond.code yX9_faultOfCourses cX9_faultOfCourses 2 (some .int)),
  (929, Cond.methodLink RX9 418 yX9_keepWhatWasSeen),
  (931, Cond.instanceMethod yX9_keepWhatWasSeen),
  (31, Cond.selects RX9 yX9_keepWhatWasSeen yX9_keepWhatWasSeen),
  (932, Cond.code yX9_keepWhatWasSeen cX9_keepWhatWasSeen 4 none),
  (937, Cond.methodLink RX9 422 yX1_leastOddRow),
  (938, Cond.instanceMethod yX1_leastOddRow),
  (939, Cond.selects RX1 yX1_leastOddRow yX1_leastOddRow),
  (940, Cond.code yX1_leastOddRow cX1_leastOddRow 3 (some .int)),
  (941, Cond.methodLink RX9 425 yX1_sumOfWeights),
  (942, Cond.instanceMethod yX1_sumOfWeights),
  (943, Cond.selects RX1 yX1_sumOfWeights yX1_sumOfWeights),
  (944, Cond.code yX1_sumOfWeights cX1_sumOfWeights 3 (some .int)),
  (926, Cond.methodLink RX9 533 yX9_areSights)]
theorem xWk_8 : xWl_8.all (fun q => decide (lw_tbl[q.1]? = some q.2) && goodWord q.2) = true := by decide +kernel
theorem xw_480 : Cond.selects RX3 yX3_offer yX3_offer ∈ xTs := x_memL xWk_8 0 rfl
theorem xw_481 : Cond.code yX3_offer cX3_offer 5 none ∈ xTs := x_memL xWk_8 1 rfl
theorem xw_482 : Cond.fieldLink RX6 66 "IceBoats$Row" "size" "I" ∈ xTs := x_memL xWk_8 2 rfl
theorem xw_483 : Cond.fieldLink RX6 72 "IceBoats$Row" "places" "[I" ∈ xTs := x_memL xWk_8 3 rfl
theorem xw_484 : Cond.fieldLink RX3 19 "IceBoats$Planner" "most" "I" ∈ xTs := x_memL xWk_8 4 rfl
theorem xw_485 : Cond.methodLink RX3 23 yX3_weigh ∈ xTs := x_memL xWk_8 5 rfl
theorem xw_486 : Cond.instanceMethod yX3_weigh ∈ xTs := x_memL xWk_8 6 rfl
theorem xw_487 : Cond.selects RX3 yX3_weigh yX3_weigh ∈ xTs := x_memL xWk_8 7 rfl
theorem xw_488 : Cond.code yX3_weigh cX3_weigh 5 none ∈ xTs := x_memL xWk_8 8 rfl
theorem xw_489 : Cond.methodLink RX3 27 (⟨"java/lang/Long", "bitCount", "(J)I"⟩ : MethodName) ∈ xTs := x_memL xWk_8 9 rfl
theorem xw_490 : Cond.fieldLink RX3 33 "IceBoats$Planner" "choice" "I" ∈ xTs := x_memL xWk_8 10 rfl
theorem xw_491 : Cond.methodLink RX9 398 yX1_startIn ∈ xTs := x_memL xWk_8 11 rfl
theorem xw_492 : Cond.instanceMethod yX1_startIn ∈ xTs := x_memL xWk_8 12 rfl
theorem xw_493 : Cond.selects RX1 yX1_startIn yX1_startIn ∈ xTs := x_memL xWk_8 13 rfl
theorem xw_494 : Cond.code yX1_startIn cX1_startIn 2 none ∈ xTs := x_memL xWk_8 14 rfl
theorem xw_495 : Cond.methodLink RX9 401 yX1_follow ∈ xTs := x_memL xWk_8 15 rfl
theorem xw_496 : Cond.instanceMethod yX1_follow ∈ xTs := x_memL xWk_8 16 rfl
theorem xw_497 : Cond.selects RX1 yX1_follow yX1_follow ∈ xTs := x_memL xWk_8 17 rfl
theorem xw_498 : Cond.code yX1_follow cX1_follow 8 none ∈ xTs := x_memL xWk_8 18 rfl
theorem xw_499 : Cond.constantLong RX9 405 4 ∈ xTs := x_memL xWk_8 19 rfl
theorem xw_500 : Cond.fieldLink RX9 407 "IceBoats$Drift" "weights" "[I" ∈ xTs := x_memL xWk_8 20 rfl
theorem xw_501 : Cond.methodLink RX9 410 yX9_tellShare ∈ xTs := x_memL xWk_8 21 rfl
theorem xw_502 : Cond.instanceMethod yX9_tellShare ∈ xTs := x_memL xWk_8 22 rfl
theorem xw_503 : Cond.selects RX9 yX9_tellShare yX9_tellShare ∈ xTs := x_memL xWk_8 23 rfl
theorem xw_504 : Cond.code yX9_tellShare cX9_tellShare 10 none ∈ xTs := x_memL xWk_8 24 rfl
theorem xw_505 : Cond.methodLink RX1 24 yX1_clearNext ∈ xTs := x_memL xWk_8 25 rfl
theorem xw_506 : Cond.instanceMethod yX1_clearNext ∈ xTs := x_memL xWk_8 26 rfl
theorem xw_507 : Cond.selects RX1 yX1_clearNext yX1_clearNext ∈ xTs := x_memL xWk_8 27 rfl
theorem xw_508 : Cond.code yX1_clearNext cX1_clearNext 2 none ∈ xTs := x_memL xWk_8 28 rfl
theorem xw_509 : Cond.methodLink RX1 27 yX1_swapNext ∈ xTs := x_memL xWk_8 29 rfl
theorem xw_510 : Cond.instanceMethod yX1_swapNext ∈ xTs := x_memL xWk_8 30 rfl
theorem xw_511 : Cond.selects RX1 yX1_swapNext yX1_swapNext ∈ xTs := x_memL xWk_8 31 rfl
theorem xw_512 : Cond.code yX1_swapNext cX1_swapNext 3 none ∈ xTs := x_memL xWk_8 32 rfl
theorem xw_513 : Cond.methodLink RX1 30 yX6_leadsTo ∈ xTs := x_memL xWk_8 33 rfl
theorem xw_514 : Cond.methodLink RX1 36 yX6_carriedFrom ∈ xTs := x_memL xWk_8 34 rfl
theorem xw_515 : Cond.methodLink RX1 40 yX1_lead ∈ xTs := x_memL xWk_8 35 rfl
theorem xw_516 : Cond.instanceMethod yX1_lead ∈ xTs := x_memL xWk_8 36 rfl
theorem xw_517 : Cond.selects RX1 yX1_lead yX1_lead ∈ xTs := x_memL xWk_8 37 rfl
theorem xw_518 : Cond.code yX1_lead cX1_lead 4 none ∈ xTs := x_memL xWk_8 38 rfl
theorem xw_519 : Cond.methodLink RX1 44 (⟨"java/lang/Math", "min", "(II)I"⟩ : MethodName) ∈ xTs := x_memL xWk_8 39 rfl
theorem xw_520 : Cond.static (⟨"java/lang/Math", "min", "(II)I"⟩ : MethodName) ∈ xTs := x_memL xWk_8 40 rfl
theorem xw_521 : Cond.code (⟨"java/lang/Math", "min", "(II)I"⟩ : MethodName) prog_15_method_69_code 2 (some .int) ∈ xTs := x_memL xWk_8 41 rfl
theorem xw_522 : Cond.constantLong RX9 468 2 ∈ xTs := x_memL xWk_8 42 rfl
theorem xw_523 : Cond.fieldLink RX9 431 "IceBoats" "lastUpper" "J" ∈ xTs := x_memL xWk_8 43 rfl
theorem xw_524 : Cond.methodLink RX9 414 yX9_faultOfCourses ∈ xTs := x_memL xWk_8 44 rfl
theorem xw_525 : Cond.static yX9_faultOfCourses ∈ xTs := x_memL xWk_8 45 rfl
theorem xw_526 : Cond.code yX9_faultOfCourses cX9_faultOfCourses 2 (some .int) ∈ xTs := x_memL xWk_8 46 rfl
theorem xw_527 : Cond.methodLink RX9 418 yX9_keepWhatWasSeen ∈ xTs := x_memL xWk_8 47 rfl
theorem xw_528 : Cond.instanceMethod yX9_keepWhatWasSeen ∈ xTs := x_memL xWk_8 48 rfl
theorem xw_529 : Cond.selects RX9 yX9_keepWhatWasSeen yX9_keepWhatWasSeen ∈ xTs := x_memL xWk_8 49 rfl
theorem xw_530 : Cond.code yX9_keepWhatWasSeen cX9_keepWhatWasSeen 4 none ∈ xTs := x_memL xWk_8 50 rfl
theorem xw_531 : Cond.methodLink RX9 422 yX1_leastOddRow ∈ xTs := x_memL xWk_8 51 rfl
theorem xw_532 : Cond.instanceMethod yX1_leastOddRow ∈ xTs := x_memL xWk_8 52 rfl
theorem xw_533 : Cond.selects RX1 yX1_leastOddRow yX1_leastOddRow ∈ xTs := x_memL xWk_8 53 rfl
theorem xw_534 : Cond.code yX1_leastOddRow cX1_leastOddRow 3 (some .int) ∈ xTs := x_memL xWk_8 54 rfl
theorem xw_535 : Cond.methodLink RX9 425 yX1_sumOfWeights ∈ xTs := x_memL xWk_8 55 rfl
theorem xw_536 : Cond.instanceMethod yX1_sumOfWeights ∈ xTs := x_memL xWk_8 56 rfl
theorem xw_537 : Cond.selects RX1 yX1_sumOfWeights yX1_sumOfWeights ∈ xTs := x_memL xWk_8 57 rfl
theorem xw_538 : Cond.code yX1_sumOfWeights cX1_sumOfWeights 3 (some .int) ∈ xTs := x_memL xWk_8 58 rfl
theorem xw_539 : Cond.methodLink RX9 533 yX9_areSights ∈ xTs := x_memL xWk_8 59 rfl
def xWl_9 : List (Nat × Cond) := [(927, Cond.static yX9_areSights),
  (928, Cond.code yX9_areSights cX9_areSights 3 (some .boolean)),
  (933, Cond.methodLink RX9 537 yX1_keepOnly),
  (934, Cond.instanceMethod yX1_keepOnly),
  (935, Cond.selects RX1 yX1_keepOnly yX1_keepOnly),
  (936, Cond.code yX1_keepOnly cX1_keepOnly 3 none),
  (965, Cond.methodLink RX9 434 yX9_ableBoats),
  (967, Cond.instanceMethod yX9_ableBoats),
  (32, Cond.selects RX9 yX9_ableBoats yX9_ableBoats),
  (968, Cond.code yX9_ableBoats cX9_ableBoats 3 (some .int)),
  (969, Cond.methodLink RX9 437 yX9_boatsOfKind),
  (971, Cond.instanceMethod yX9_boatsOfKind),
  (33, Cond.selects RX9 yX9_boatsOfKind yX9_boatsOfKind),
  (972, Cond.code yX9_boatsOfKind cX9_boatsOfKind 4 (some .int)),
  (973, Cond.methodLink RX9 440 yX9_rowsThere),
  (974, Cond.static yX9_rowsThere),
  (975, Cond.code yX9_rowsThere cX9_rowsThere 3 (some .int)),
  (988, Cond.constantLong RX9 447 17),
  (989, Cond.constantLong RX9 449 31),
  (990, Cond.methodLink RX9 451 yX9_count),
  (962, Cond.instanceMethod yX9_count),
  (963, Cond.selects RX9 yX9_count yX9_count),
  (964, Cond.code yX9_count cX9_count 2 (some .int)),
  (991, Cond.methodLink RX9 454 yX9_digestBoats),
  (993, Cond.instanceMethod yX9_digestBoats),
  (34, Cond.selects RX9 yX9_digestBoats yX9_digestBoats),
  (994, Cond.code yX9_digestBoats cX9_digestBoats 7 (some .long)),
  (995, Cond.methodLink RX9 458 yX9_digestWords),
  (997, Cond.instanceMethod yX9_digestWords),
  (35, Cond.selects RX9 yX9_digestWords yX9_digestWords),
  (998, Cond.code yX9_digestWords cX9_digestWords 7 (some .long)),
  (999, Cond.methodLink RX9 461 yX9_digestLooks),
  (1001, Cond.instanceMethod yX9_digestLooks),
  (36, Cond.selects RX9 yX9_digestLooks yX9_digestLooks),
  (1002, Cond.code yX9_digestLooks cX9_digestLooks 7 (some .long)),
  (1003, Cond.methodLink RX9 464 yX9_digestRows),
  (1004, Cond.static yX9_digestRows),
  (1005, Cond.code yX9_digestRows cX9_digestRows 7 (some .long)),
  (1011, Cond.methodLink RX10 1 Lib.objectInit),
  (1013, Cond.fieldLink RX10 7 "IceBoatsModel" "findings" "[I"),
  (1017, Cond.fieldLink RX10 13 "IceBoatsModel" "lower" "J"),
  (1019, Cond.fieldLink RX10 17 "IceBoatsModel" "sizes" "[I"),
  (1020, Cond.fieldLink RX10 20 "IceBoatsModel" "rows" "[I"),
  (1021, Cond.fieldLink RX10 23 "IceBoatsModel" "moving" "[I"),
  (1022, Cond.fieldLink RX10 26 "IceBoatsModel" "lengths" "[I"),
  (1023, Cond.fieldLink RX10 29 "IceBoatsModel" "texts" "[I"),
  (1024, Cond.fieldLink RX10 32 "IceBoatsModel" "isRock" "[Z"),
  (1025, Cond.fieldLink RX10 36 "IceBoatsModel" "current" "[I"),
  (1026, Cond.fieldLink RX10 39 "IceBoatsModel" "warmth" "[I"),
  (1027, Cond.fieldLink RX10 42 "IceBoatsModel" "ice" "[I"),
  (1028, Cond.fieldLink RX10 45 "IceBoatsModel" "charts" "[I"),
  (1030, Cond.fieldLink RX10 48 "IceBoatsModel" "lots" "I"),
  (1031, Cond.fieldLink RX10 52 "IceBoatsModel" "times" "[I"),
  (1032, Cond.fieldLink RX10 55 "IceBoatsModel" "kinds" "[I"),
  (1033, Cond.fieldLink RX10 58 "IceBoatsModel" "cellOf" "[I"),
  (1034, Cond.fieldLink RX10 61 "IceBoatsModel" "power" "[I"),
  (1035, Cond.fieldLink RX10 64 "IceBoatsModel" "coulds" "[J"),
  (1036, Cond.fieldLink RX10 68 "IceBoatsModel" "wayTold" "[I"),
  (1037, Cond.fieldLink RX10 71 "IceBoatsModel" "heardAt" "[I"),
  (1038, Cond.fieldLink RX10 74 "IceBoatsModel" "saidAt" "[I")]
theorem xWk_9 : xWl_9.all (fun q => decide (lw_tbl[q.1]? = some q.2) && goodWord q.2) = true := by decide +kernel
theorem xw_540 : Cond.static yX9_areSights ∈ xTs := x_memL xWk_9 0 rfl
theorem xw_541 : Cond.code yX9_areSights cX9_areSights 3 (some .boolean) ∈ xTs := x_memL xWk_9 1 rfl
theorem xw_542 : Cond.methodLink RX9 537 yX1_keepOnly ∈ xTs := x_memL xWk_9 2 rfl
theorem xw_543 : Cond.instanceMethod yX1_keepOnly ∈ xTs := x_memL xWk_9 3 rfl
theorem xw_544 : Cond.selects RX1 yX1_keepOnly yX1_keepOnly ∈ xTs := x_memL xWk_9 4 rfl
theorem xw_545 : Cond.code yX1_keepOnly cX1_keepOnly 3 none ∈ xTs := x_memL xWk_9 5 rfl
theorem xw_546 : Cond.methodLink RX9 434 yX9_ableBoats ∈ xTs := x_memL xWk_9 6 rfl
theorem xw_547 : Cond.instanceMethod yX9_ableBoats ∈ xTs := x_memL xWk_9 7 rfl
theorem xw_548 : Cond.selects RX9 yX9_ableBoats yX9_ableBoats ∈ xTs := x_memL xWk_9 8 rfl
theorem xw_549 : Cond.code yX9_ableBoats cX9_ableBoats 3 (some .int) ∈ xTs := x_memL xWk_9 9 rfl
theorem xw_550 : Cond.methodLink RX9 437 yX9_boatsOfKind ∈ xTs := x_memL xWk_9 10 rfl
theorem xw_551 : Cond.instanceMethod yX9_boatsOfKind ∈ xTs := x_memL xWk_9 11 rfl
theorem xw_552 : Cond.selects RX9 yX9_boatsOfKind yX9_boatsOfKind ∈ xTs := x_memL xWk_9 12 rfl
theorem xw_553 : Cond.code yX9_boatsOfKind cX9_boatsOfKind 4 (some .int) ∈ xTs := x_memL xWk_9 13 rfl
theorem xw_554 : Cond.methodLink RX9 440 yX9_rowsThere ∈ xTs := x_memL xWk_9 14 rfl
theorem xw_555 : Cond.static yX9_rowsThere ∈ xTs := x_memL xWk_9 15 rfl
theorem xw_556 : Cond.code yX9_rowsThere cX9_rowsThere 3 (some .int) ∈ xTs := x_memL xWk_9 16 rfl
theorem xw_557 : Cond.constantLong RX9 447 17 ∈ xTs := x_memL xWk_9 17 rfl
theorem xw_558 : Cond.constantLong RX9 449 31 ∈ xTs := x_memL xWk_9 18 rfl
theorem xw_559 : Cond.methodLink RX9 451 yX9_count ∈ xTs := x_memL xWk_9 19 rfl
theorem xw_560 : Cond.instanceMethod yX9_count ∈ xTs := x_memL xWk_9 20 rfl
theorem xw_561 : Cond.selects RX9 yX9_count yX9_count ∈ xTs := x_memL xWk_9 21 rfl
theorem xw_562 : Cond.code yX9_count cX9_count 2 (some .int) ∈ xTs := x_memL xWk_9 22 rfl
theorem xw_563 : Cond.methodLink RX9 454 yX9_digestBoats ∈ xTs := x_memL xWk_9 23 rfl
theorem xw_564 : Cond.instanceMethod yX9_digestBoats ∈ xTs := x_memL xWk_9 24 rfl
theorem xw_565 : Cond.selects RX9 yX9_digestBoats yX9_digestBoats ∈ xTs := x_memL xWk_9 25 rfl
theorem xw_566 : Cond.code yX9_digestBoats cX9_digestBoats 7 (some .long) ∈ xTs := x_memL xWk_9 26 rfl
theorem xw_567 : Cond.methodLink RX9 458 yX9_digestWords ∈ xTs := x_memL xWk_9 27 rfl
theorem xw_568 : Cond.instanceMethod yX9_digestWords ∈ xTs := x_memL xWk_9 28 rfl
theorem xw_569 : Cond.selects RX9 yX9_digestWords yX9_digestWords ∈ xTs := x_memL xWk_9 29 rfl
theorem xw_570 : Cond.code yX9_digestWords cX9_digestWords 7 (some .long) ∈ xTs := x_memL xWk_9 30 rfl
theorem xw_571 : Cond.methodLink RX9 461 yX9_digestLooks ∈ xTs := x_memL xWk_9 31 rfl
theorem xw_572 : Cond.instanceMethod yX9_digestLooks ∈ xTs := x_memL xWk_9 32 rfl
theorem xw_573 : Cond.selects RX9 yX9_digestLooks yX9_digestLooks ∈ xTs := x_memL xWk_9 33 rfl
theorem xw_574 : Cond.code yX9_digestLooks cX9_digestLooks 7 (some .long) ∈ xTs := x_memL xWk_9 34 rfl
theorem xw_575 : Cond.methodLink RX9 464 yX9_digestRows ∈ xTs := x_memL xWk_9 35 rfl
theorem xw_576 : Cond.static yX9_digestRows ∈ xTs := x_memL xWk_9 36 rfl
theorem xw_577 : Cond.code yX9_digestRows cX9_digestRows 7 (some .long) ∈ xTs := x_memL xWk_9 37 rfl
theorem xw_578 : Cond.methodLink RX10 1 Lib.objectInit ∈ xTs := x_memL xWk_9 38 rfl
theorem xw_579 : Cond.fieldLink RX10 7 "IceBoatsModel" "findings" "[I" ∈ xTs := x_memL xWk_9 39 rfl
theorem xw_580 : Cond.fieldLink RX10 13 "IceBoatsModel" "lower" "J" ∈ xTs := x_memL xWk_9 40 rfl
theorem xw_581 : Cond.fieldLink RX10 17 "IceBoatsModel" "sizes" "[I" ∈ xTs := x_memL xWk_9 41 rfl
theorem xw_582 : Cond.fieldLink RX10 20 "IceBoatsModel" "rows" "[I" ∈ xTs := x_memL xWk_9 42 rfl
theorem xw_583 : Cond.fieldLink RX10 23 "IceBoatsModel" "moving" "[I" ∈ xTs := x_memL xWk_9 43 rfl
theorem xw_584 : Cond.fieldLink RX10 26 "IceBoatsModel" "lengths" "[I" ∈ xTs := x_memL xWk_9 44 rfl
theorem xw_585 : Cond.fieldLink RX10 29 "IceBoatsModel" "texts" "[I" ∈ xTs := x_memL xWk_9 45 rfl
theorem xw_586 : Cond.fieldLink RX10 32 "IceBoatsModel" "isRock" "[Z" ∈ xTs := x_memL xWk_9 46 rfl
theorem xw_587 : Cond.fieldLink RX10 36 "IceBoatsModel" "current" "[I" ∈ xTs := x_memL xWk_9 47 rfl
theorem xw_588 : Cond.fieldLink RX10 39 "IceBoatsModel" "warmth" "[I" ∈ xTs := x_memL xWk_9 48 rfl
theorem xw_589 : Cond.fieldLink RX10 42 "IceBoatsModel" "ice" "[I" ∈ xTs := x_memL xWk_9 49 rfl
theorem xw_590 : Cond.fieldLink RX10 45 "IceBoatsModel" "charts" "[I" ∈ xTs := x_memL xWk_9 50 rfl
theorem xw_591 : Cond.fieldLink RX10 48 "IceBoatsModel" "lots" "I" ∈ xTs := x_memL xWk_9 51 rfl
theorem xw_592 : Cond.fieldLink RX10 52 "IceBoatsModel" "times" "[I" ∈ xTs := x_memL xWk_9 52 rfl
theorem xw_593 : Cond.fieldLink RX10 55 "IceBoatsModel" "kinds" "[I" ∈ xTs := x_memL xWk_9 53 rfl
theorem xw_594 : Cond.fieldLink RX10 58 "IceBoatsModel" "cellOf" "[I" ∈ xTs := x_memL xWk_9 54 rfl
theorem xw_595 : Cond.fieldLink RX10 61 "IceBoatsModel" "power" "[I" ∈ xTs := x_memL xWk_9 55 rfl
theorem xw_596 : Cond.fieldLink RX10 64 "IceBoatsModel" "coulds" "[J" ∈ xTs := x_memL xWk_9 56 rfl
theorem xw_597 : Cond.fieldLink RX10 68 "IceBoatsModel" "wayTold" "[I" ∈ xTs := x_memL xWk_9 57 rfl
theorem xw_598 : Cond.fieldLink RX10 71 "IceBoatsModel" "heardAt" "[I" ∈ xTs := x_memL xWk_9 58 rfl
theorem xw_599 : Cond.fieldLink RX10 74 "IceBoatsModel" "saidAt" "[I" ∈ xTs := x_memL xWk_9 59 rfl
def xWl_10 : List (Nat × Cond) := [(1039, Cond.fieldLink RX10 77 "IceBoatsModel" "saidMany" "[I"),
  (1040, Cond.fieldLink RX10 80 "IceBoatsModel" "lookMany" "[I"),
  (1041, Cond.fieldLink RX10 83 "IceBoatsModel" "since" "[I"),
  (1043, Cond.fieldLink RX10 86 "IceBoatsModel" "lookCell" "[I"),
  (1044, Cond.fieldLink RX10 89 "IceBoatsModel" "lookIce" "[I"),
  (1045, Cond.fieldLink RX10 92 "IceBoatsModel" "lookHeld" "[I"),
  (1046, Cond.fieldLink RX10 95 "IceBoatsModel" "lookTick" "[I"),
  (1047, Cond.fieldLink RX10 98 "IceBoatsModel" "lookBy" "[I"),
  (1049, Cond.fieldLink RX10 101 "IceBoatsModel" "wordKind" "[I"),
  (1050, Cond.fieldLink RX10 104 "IceBoatsModel" "wordBy" "[I"),
  (1051, Cond.fieldLink RX10 107 "IceBoatsModel" "wordTick" "[I"),
  (1052, Cond.fieldLink RX10 110 "IceBoatsModel" "wordOf" "[I"),
  (1053, Cond.fieldLink RX10 113 "IceBoatsModel" "wordCould" "[J"),
  (1054, Cond.fieldLink RX10 116 "IceBoatsModel" "comes" "[I"),
  (1055, Cond.fieldLink RX10 119 "IceBoatsModel" "isHow" "[I"),
  (1056, Cond.fieldLink RX10 122 "IceBoatsModel" "ruleOf" "[I"),
  (1057, Cond.fieldLink RX10 125 "IceBoatsModel" "items" "[I"),
  (1058, Cond.fieldLink RX10 128 "IceBoatsModel" "planned" "[I"),
  (1059, Cond.fieldLink RX10 131 "IceBoatsModel" "by" "[J"),
  (1060, Cond.fieldLink RX10 134 "IceBoatsModel" "shares" "[J"),
  (1061, Cond.fieldLink RX10 137 "IceBoatsModel" "nextShares" "[J"),
  (1170, Cond.methodLink RX10 154 yX10_isRow),
  (1171, Cond.static yX10_isRow),
  (84, Cond.initialized RX10),
  (1172, Cond.code yX10_isRow cX10_isRow 1 (some .boolean)),
  (1176, Cond.methodLink RX10 158 yX10_meets),
  (1178, Cond.instanceMethod yX10_meets),
  (37, Cond.selects RX10 yX10_meets yX10_meets),
  (1179, Cond.code yX10_meets cX10_meets 2 (some .int)),
  (1173, Cond.methodLink RX10 146 yX10_in),
  (1174, Cond.static yX10_in),
  (1175, Cond.code yX10_in cX10_in 3 (some .boolean)),
  (1012, Cond.fieldLink RX10 140 "IceBoatsModel" "finding" "I"),
  (1184, Cond.methodLink RX10 165 yX10_askedRow),
  (1186, Cond.instanceMethod yX10_askedRow),
  (38, Cond.selects RX10 yX10_askedRow yX10_askedRow),
  (1187, Cond.code yX10_askedRow cX10_askedRow 2 (some .int)),
  (1188, Cond.methodLink RX10 168 yX10_rowAt),
  (1190, Cond.instanceMethod yX10_rowAt),
  (39, Cond.selects RX10 yX10_rowAt yX10_rowAt),
  (1191, Cond.code yX10_rowAt cX10_rowAt 3 (some .int)),
  (1014, Cond.fieldLink RX10 143 "IceBoatsModel" "asked" "I"),
  (1204, Cond.methodLink RX10 172 yX10_ask),
  (1206, Cond.instanceMethod yX10_ask),
  (40, Cond.selects RX10 yX10_ask yX10_ask),
  (1207, Cond.code yX10_ask cX10_ask 3 (some .int)),
  (1212, Cond.methodLink RX10 162 yX10_isText),
  (1213, Cond.static yX10_isText),
  (1214, Cond.code yX10_isText cX10_isText 1 (some .boolean)),
  (1219, Cond.methodLink RX10 175 yX10_askedText),
  (1221, Cond.instanceMethod yX10_askedText),
  (41, Cond.selects RX10 yX10_askedText yX10_askedText),
  (1222, Cond.code yX10_askedText cX10_askedText 2 (some .int)),
  (1227, Cond.methodLink RX10 181 yX10_isCell),
  (1228, Cond.static yX10_isCell),
  (1229, Cond.code yX10_isCell cX10_isCell 1 (some .boolean)),
  (1230, Cond.methodLink RX10 184 yX10_isTaken),
  (1232, Cond.instanceMethod yX10_isTaken),
  (42, Cond.selects RX10 yX10_isTaken yX10_isTaken),
  (1233, Cond.code yX10_isTaken cX10_isTaken 4 (some .boolean))]
theorem xWk_10 : xWl_10.all (fun q => decide (lw_tbl[q.1]? = some q.2) && goodWord q.2) = true := by decide +kernel
theorem xw_600 : Cond.fieldLink RX10 77 "IceBoatsModel" "saidMany" "[I" ∈ xTs := x_memL xWk_10 0 rfl
theorem xw_601 : Cond.fieldLink RX10 80 "IceBoatsModel" "lookMany" "[I" ∈ xTs := x_memL xWk_10 1 rfl
theorem xw_602 : Cond.fieldLink RX10 83 "IceBoatsModel" "since" "[I" ∈ xTs := x_memL xWk_10 2 rfl
theorem xw_603 : Cond.fieldLink RX10 86 "IceBoatsModel" "lookCell" "[I" ∈ xTs := x_memL xWk_10 3 rfl
theorem xw_604 : Cond.fieldLink RX10 89 "IceBoatsModel" "lookIce" "[I" ∈ xTs := x_memL xWk_10 4 rfl
theorem xw_605 : Cond.fieldLink RX10 92 "IceBoatsModel" "lookHeld" "[I" ∈ xTs := x_memL xWk_10 5 rfl
theorem xw_606 : Cond.fieldLink RX10 95 "IceBoatsModel" "lookTick" "[I" ∈ xTs := x_memL xWk_10 6 rfl
theorem xw_607 : Cond.fieldLink RX10 98 "IceBoatsModel" "lookBy" "[I" ∈ xTs := x_memL xWk_10 7 rfl
theorem xw_608 : Cond.fieldLink RX10 101 "IceBoatsModel" "wordKind" "[I" ∈ xTs := x_memL xWk_10 8 rfl
theorem xw_609 : Cond.fieldLink RX10 104 "IceBoatsModel" "wordBy" "[I" ∈ xTs := x_memL xWk_10 9 rfl
theorem xw_610 : Cond.fieldLink RX10 107 "IceBoatsModel" "wordTick" "[I" ∈ xTs := x_memL xWk_10 10 rfl
theorem xw_611 : Cond.fieldLink RX10 110 "IceBoatsModel" "wordOf" "[I" ∈ xTs := x_memL xWk_10 11 rfl
theorem xw_612 : Cond.fieldLink RX10 113 "IceBoatsModel" "wordCould" "[J" ∈ xTs := x_memL xWk_10 12 rfl
theorem xw_613 : Cond.fieldLink RX10 116 "IceBoatsModel" "comes" "[I" ∈ xTs := x_memL xWk_10 13 rfl
theorem xw_614 : Cond.fieldLink RX10 119 "IceBoatsModel" "isHow" "[I" ∈ xTs := x_memL xWk_10 14 rfl
theorem xw_615 : Cond.fieldLink RX10 122 "IceBoatsModel" "ruleOf" "[I" ∈ xTs := x_memL xWk_10 15 rfl
theorem xw_616 : Cond.fieldLink RX10 125 "IceBoatsModel" "items" "[I" ∈ xTs := x_memL xWk_10 16 rfl
theorem xw_617 : Cond.fieldLink RX10 128 "IceBoatsModel" "planned" "[I" ∈ xTs := x_memL xWk_10 17 rfl
theorem xw_618 : Cond.fieldLink RX10 131 "IceBoatsModel" "by" "[J" ∈ xTs := x_memL xWk_10 18 rfl
theorem xw_619 : Cond.fieldLink RX10 134 "IceBoatsModel" "shares" "[J" ∈ xTs := x_memL xWk_10 19 rfl
theorem xw_620 : Cond.fieldLink RX10 137 "IceBoatsModel" "nextShares" "[J" ∈ xTs := x_memL xWk_10 20 rfl
theorem xw_621 : Cond.methodLink RX10 154 yX10_isRow ∈ xTs := x_memL xWk_10 21 rfl
theorem xw_622 : Cond.static yX10_isRow ∈ xTs := x_memL xWk_10 22 rfl
theorem xw_623 : Cond.initialized RX10 ∈ xTs := x_memL xWk_10 23 rfl
theorem xw_624 : Cond.code yX10_isRow cX10_isRow 1 (some .boolean) ∈ xTs := x_memL xWk_10 24 rfl
theorem xw_625 : Cond.methodLink RX10 158 yX10_meets ∈ xTs := x_memL xWk_10 25 rfl
theorem xw_626 : Cond.instanceMethod yX10_meets ∈ xTs := x_memL xWk_10 26 rfl
theorem xw_627 : Cond.selects RX10 yX10_meets yX10_meets ∈ xTs := x_memL xWk_10 27 rfl
theorem xw_628 : Cond.code yX10_meets cX10_meets 2 (some .int) ∈ xTs := x_memL xWk_10 28 rfl
theorem xw_629 : Cond.methodLink RX10 146 yX10_in ∈ xTs := x_memL xWk_10 29 rfl
theorem xw_630 : Cond.static yX10_in ∈ xTs := x_memL xWk_10 30 rfl
theorem xw_631 : Cond.code yX10_in cX10_in 3 (some .boolean) ∈ xTs := x_memL xWk_10 31 rfl
theorem xw_632 : Cond.fieldLink RX10 140 "IceBoatsModel" "finding" "I" ∈ xTs := x_memL xWk_10 32 rfl
theorem xw_633 : Cond.methodLink RX10 165 yX10_askedRow ∈ xTs := x_memL xWk_10 33 rfl
theorem xw_634 : Cond.instanceMethod yX10_askedRow ∈ xTs := x_memL xWk_10 34 rfl
theorem xw_635 : Cond.selects RX10 yX10_askedRow yX10_askedRow ∈ xTs := x_memL xWk_10 35 rfl
theorem xw_636 : Cond.code yX10_askedRow cX10_askedRow 2 (some .int) ∈ xTs := x_memL xWk_10 36 rfl
theorem xw_637 : Cond.methodLink RX10 168 yX10_rowAt ∈ xTs := x_memL xWk_10 37 rfl
theorem xw_638 : Cond.instanceMethod yX10_rowAt ∈ xTs := x_memL xWk_10 38 rfl
theorem xw_639 : Cond.selects RX10 yX10_rowAt yX10_rowAt ∈ xTs := x_memL xWk_10 39 rfl
theorem xw_640 : Cond.code yX10_rowAt cX10_rowAt 3 (some .int) ∈ xTs := x_memL xWk_10 40 rfl
theorem xw_641 : Cond.fieldLink RX10 143 "IceBoatsModel" "asked" "I" ∈ xTs := x_memL xWk_10 41 rfl
theorem xw_642 : Cond.methodLink RX10 172 yX10_ask ∈ xTs := x_memL xWk_10 42 rfl
theorem xw_643 : Cond.instanceMethod yX10_ask ∈ xTs := x_memL xWk_10 43 rfl
theorem xw_644 : Cond.selects RX10 yX10_ask yX10_ask ∈ xTs := x_memL xWk_10 44 rfl
theorem xw_645 : Cond.code yX10_ask cX10_ask 3 (some .int) ∈ xTs := x_memL xWk_10 45 rfl
theorem xw_646 : Cond.methodLink RX10 162 yX10_isText ∈ xTs := x_memL xWk_10 46 rfl
theorem xw_647 : Cond.static yX10_isText ∈ xTs := x_memL xWk_10 47 rfl
theorem xw_648 : Cond.code yX10_isText cX10_isText 1 (some .boolean) ∈ xTs := x_memL xWk_10 48 rfl
theorem xw_649 : Cond.methodLink RX10 175 yX10_askedText ∈ xTs := x_memL xWk_10 49 rfl
theorem xw_650 : Cond.instanceMethod yX10_askedText ∈ xTs := x_memL xWk_10 50 rfl
theorem xw_651 : Cond.selects RX10 yX10_askedText yX10_askedText ∈ xTs := x_memL xWk_10 51 rfl
theorem xw_652 : Cond.code yX10_askedText cX10_askedText 2 (some .int) ∈ xTs := x_memL xWk_10 52 rfl
theorem xw_653 : Cond.methodLink RX10 181 yX10_isCell ∈ xTs := x_memL xWk_10 53 rfl
theorem xw_654 : Cond.static yX10_isCell ∈ xTs := x_memL xWk_10 54 rfl
theorem xw_655 : Cond.code yX10_isCell cX10_isCell 1 (some .boolean) ∈ xTs := x_memL xWk_10 55 rfl
theorem xw_656 : Cond.methodLink RX10 184 yX10_isTaken ∈ xTs := x_memL xWk_10 56 rfl
theorem xw_657 : Cond.instanceMethod yX10_isTaken ∈ xTs := x_memL xWk_10 57 rfl
theorem xw_658 : Cond.selects RX10 yX10_isTaken yX10_isTaken ∈ xTs := x_memL xWk_10 58 rfl
theorem xw_659 : Cond.code yX10_isTaken cX10_isTaken 4 (some .boolean) ∈ xTs := x_memL xWk_10 59 rfl
def xWl_11 : List (Nat × Cond) := [(1029, Cond.fieldLink RX10 178 "IceBoatsModel" "holeAt" "I"),
  (1238, Cond.methodLink RX10 187 yX10_isWay),
  (1239, Cond.static yX10_isWay),
  (1240, Cond.code yX10_isWay cX10_isWay 1 (some .boolean)),
  (1241, Cond.methodLink RX10 190 yX10_isIce),
  (1242, Cond.static yX10_isIce),
  (1243, Cond.code yX10_isIce cX10_isIce 1 (some .boolean)),
  (1248, Cond.methodLink RX10 193 yX10_seaTells),
  (1250, Cond.instanceMethod yX10_seaTells),
  (43, Cond.selects RX10 yX10_seaTells yX10_seaTells),
  (1251, Cond.code yX10_seaTells cX10_seaTells 3 (some .int)),
  (1268, Cond.methodLink RX10 200 yX10_setTimes),
  (1270, Cond.instanceMethod yX10_setTimes),
  (44, Cond.selects RX10 yX10_setTimes yX10_setTimes),
  (1271, Cond.code yX10_setTimes cX10_setTimes 6 none),
  (1272, Cond.constant RX10 196 100000),
  (1273, Cond.methodLink RX10 197 yX10_leads),
  (1275, Cond.instanceMethod yX10_leads),
  (45, Cond.selects RX10 yX10_leads yX10_leads),
  (1276, Cond.code yX10_leads cX10_leads 4 (some .int)),
  (1281, Cond.methodLink RX10 204 yX10_isBoat),
  (1282, Cond.static yX10_isBoat),
  (1283, Cond.code yX10_isBoat cX10_isBoat 1 (some .boolean)),
  (1018, Cond.fieldLink RX10 207 "IceBoatsModel" "now" "I"),
  (1288, Cond.methodLink RX10 220 yX10_boatTells),
  (1290, Cond.instanceMethod yX10_boatTells),
  (46, Cond.selects RX10 yX10_boatTells yX10_boatTells),
  (1291, Cond.code yX10_boatTells cX10_boatTells 3 (some .int)),
  (1292, Cond.methodLink RX10 213 yX10_many),
  (1293, Cond.static yX10_many),
  (1294, Cond.code yX10_many cX10_many 4 (some .int)),
  (1298, Cond.methodLink RX10 217 yX10_heldBy),
  (1300, Cond.instanceMethod yX10_heldBy),
  (47, Cond.selects RX10 yX10_heldBy yX10_heldBy),
  (1301, Cond.code yX10_heldBy cX10_heldBy 4 (some .int)),
  (1295, Cond.methodLink RX10 150 yX10_has),
  (1296, Cond.static yX10_has),
  (1297, Cond.code yX10_has cX10_has 3 (some .boolean)),
  (1042, Cond.fieldLink RX10 210 "IceBoatsModel" "looks" "I"),
  (1015, Cond.fieldLink RX10 223 "IceBoatsModel" "cellSet" "J"),
  (1314, Cond.methodLink RX10 226 yX10_isAble),
  (1316, Cond.instanceMethod yX10_isAble),
  (48, Cond.selects RX10 yX10_isAble yX10_isAble),
  (1317, Cond.code yX10_isAble cX10_isAble 2 (some .boolean)),
  (1322, Cond.methodLink RX10 234 yX10_moves),
  (1324, Cond.instanceMethod yX10_moves),
  (49, Cond.selects RX10 yX10_moves yX10_moves),
  (1325, Cond.code yX10_moves cX10_moves 7 none),
  (1331, Cond.methodLink RX10 237 yX10_hears),
  (1333, Cond.instanceMethod yX10_hears),
  (51, Cond.selects RX10 yX10_hears yX10_hears),
  (1334, Cond.code yX10_hears cX10_hears 5 (some .int)),
  (1326, Cond.methodLink RX10 230 yX10_isCarried),
  (1328, Cond.instanceMethod yX10_isCarried),
  (50, Cond.selects RX10 yX10_isCarried yX10_isCarried),
  (1329, Cond.code yX10_isCarried cX10_isCarried 1 (some .boolean)),
  (1330, Cond.constant RX10 229 1103515245),
  (1048, Cond.fieldLink RX10 250 "IceBoatsModel" "words" "I"),
  (1335, Cond.methodLink RX10 253 yX10_takes),
  (1337, Cond.instanceMethod yX10_takes)]
theorem xWk_11 : xWl_11.all (fun q => decide (lw_tbl[q.1]? = some q.2) && goodWord q.2) = true := by decide +kernel
theorem xw_660 : Cond.fieldLink RX10 178 "IceBoatsModel" "holeAt" "I" ∈ xTs := x_memL xWk_11 0 rfl
theorem xw_661 : Cond.methodLink RX10 187 yX10_isWay ∈ xTs := x_memL xWk_11 1 rfl
theorem xw_662 : Cond.static yX10_isWay ∈ xTs := x_memL xWk_11 2 rfl
theorem xw_663 : Cond.code yX10_isWay cX10_isWay 1 (some .boolean) ∈ xTs := x_memL xWk_11 3 rfl
theorem xw_664 : Cond.methodLink RX10 190 yX10_isIce ∈ xTs := x_memL xWk_11 4 rfl
theorem xw_665 : Cond.static yX10_isIce ∈ xTs := x_memL xWk_11 5 rfl
theorem xw_666 : Cond.code yX10_isIce cX10_isIce 1 (some .boolean) ∈ xTs := x_memL xWk_11 6 rfl
theorem xw_667 : Cond.methodLink RX10 193 yX10_seaTells ∈ xTs := x_memL xWk_11 7 rfl
theorem xw_668 : Cond.instanceMethod yX10_seaTells ∈ xTs := x_memL xWk_11 8 rfl
theorem xw_669 : Cond.selects RX10 yX10_seaTells yX10_seaTells ∈ xTs := x_memL xWk_11 9 rfl
theorem xw_670 : Cond.code yX10_seaTells cX10_seaTells 3 (some .int) ∈ xTs := x_memL xWk_11 10 rfl
theorem xw_671 : Cond.methodLink RX10 200 yX10_setTimes ∈ xTs := x_memL xWk_11 11 rfl
theorem xw_672 : Cond.instanceMethod yX10_setTimes ∈ xTs := x_memL xWk_11 12 rfl
theorem xw_673 : Cond.selects RX10 yX10_setTimes yX10_setTimes ∈ xTs := x_memL xWk_11 13 rfl
theorem xw_674 : Cond.code yX10_setTimes cX10_setTimes 6 none ∈ xTs := x_memL xWk_11 14 rfl
theorem xw_675 : Cond.constant RX10 196 100000 ∈ xTs := x_memL xWk_11 15 rfl
theorem xw_676 : Cond.methodLink RX10 197 yX10_leads ∈ xTs := x_memL xWk_11 16 rfl
theorem xw_677 : Cond.instanceMethod yX10_leads ∈ xTs := x_memL xWk_11 17 rfl
theorem xw_678 : Cond.selects RX10 yX10_leads yX10_leads ∈ xTs := x_memL xWk_11 18 rfl
theorem xw_679 : Cond.code yX10_leads cX10_leads 4 (some .int) ∈ xTs := x_memL xWk_11 19 rfl
theorem xw_680 : Cond.methodLink RX10 204 yX10_isBoat ∈ xTs := x_memL xWk_11 20 rfl
theorem xw_681 : Cond.static yX10_isBoat ∈ xTs := x_memL xWk_11 21 rfl
theorem xw_682 : Cond.code yX10_isBoat cX10_isBoat 1 (some .boolean) ∈ xTs := x_memL xWk_11 22 rfl
theorem xw_683 : Cond.fieldLink RX10 207 "IceBoatsModel" "now" "I" ∈ xTs := x_memL xWk_11 23 rfl
theorem xw_684 : Cond.methodLink RX10 220 yX10_boatTells ∈ xTs := x_memL xWk_11 24 rfl
theorem xw_685 : Cond.instanceMethod yX10_boatTells ∈ xTs := x_memL xWk_11 25 rfl
theorem xw_686 : Cond.selects RX10 yX10_boatTells yX10_boatTells ∈ xTs := x_memL xWk_11 26 rfl
theorem xw_687 : Cond.code yX10_boatTells cX10_boatTells 3 (some .int) ∈ xTs := x_memL xWk_11 27 rfl
theorem xw_688 : Cond.methodLink RX10 213 yX10_many ∈ xTs := x_memL xWk_11 28 rfl
theorem xw_689 : Cond.static yX10_many ∈ xTs := x_memL xWk_11 29 rfl
theorem xw_690 : Cond.code yX10_many cX10_many 4 (some .int) ∈ xTs := x_memL xWk_11 30 rfl
theorem xw_691 : Cond.methodLink RX10 217 yX10_heldBy ∈ xTs := x_memL xWk_11 31 rfl
theorem xw_692 : Cond.instanceMethod yX10_heldBy ∈ xTs := x_memL xWk_11 32 rfl
theorem xw_693 : Cond.selects RX10 yX10_heldBy yX10_heldBy ∈ xTs := x_memL xWk_11 33 rfl
theorem xw_694 : Cond.code yX10_heldBy cX10_heldBy 4 (some .int) ∈ xTs := x_memL xWk_11 34 rfl
theorem xw_695 : Cond.methodLink RX10 150 yX10_has ∈ xTs := x_memL xWk_11 35 rfl
theorem xw_696 : Cond.static yX10_has ∈ xTs := x_memL xWk_11 36 rfl
theorem xw_697 : Cond.code yX10_has cX10_has 3 (some .boolean) ∈ xTs := x_memL xWk_11 37 rfl
theorem xw_698 : Cond.fieldLink RX10 210 "IceBoatsModel" "looks" "I" ∈ xTs := x_memL xWk_11 38 rfl
theorem xw_699 : Cond.fieldLink RX10 223 "IceBoatsModel" "cellSet" "J" ∈ xTs := x_memL xWk_11 39 rfl
theorem xw_700 : Cond.methodLink RX10 226 yX10_isAble ∈ xTs := x_memL xWk_11 40 rfl
theorem xw_701 : Cond.instanceMethod yX10_isAble ∈ xTs := x_memL xWk_11 41 rfl
theorem xw_702 : Cond.selects RX10 yX10_isAble yX10_isAble ∈ xTs := x_memL xWk_11 42 rfl
theorem xw_703 : Cond.code yX10_isAble cX10_isAble 2 (some .boolean) ∈ xTs := x_memL xWk_11 43 rfl
theorem xw_704 : Cond.methodLink RX10 234 yX10_moves ∈ xTs := x_memL xWk_11 44 rfl
theorem xw_705 : Cond.instanceMethod yX10_moves ∈ xTs := x_memL xWk_11 45 rfl
theorem xw_706 : Cond.selects RX10 yX10_moves yX10_moves ∈ xTs := x_memL xWk_11 46 rfl
theorem xw_707 : Cond.code yX10_moves cX10_moves 7 none ∈ xTs := x_memL xWk_11 47 rfl
theorem xw_708 : Cond.methodLink RX10 237 yX10_hears ∈ xTs := x_memL xWk_11 48 rfl
theorem xw_709 : Cond.instanceMethod yX10_hears ∈ xTs := x_memL xWk_11 49 rfl
theorem xw_710 : Cond.selects RX10 yX10_hears yX10_hears ∈ xTs := x_memL xWk_11 50 rfl
theorem xw_711 : Cond.code yX10_hears cX10_hears 5 (some .int) ∈ xTs := x_memL xWk_11 51 rfl
theorem xw_712 : Cond.methodLink RX10 230 yX10_isCarried ∈ xTs := x_memL xWk_11 52 rfl
theorem xw_713 : Cond.instanceMethod yX10_isCarried ∈ xTs := x_memL xWk_11 53 rfl
theorem xw_714 : Cond.selects RX10 yX10_isCarried yX10_isCarried ∈ xTs := x_memL xWk_11 54 rfl
theorem xw_715 : Cond.code yX10_isCarried cX10_isCarried 1 (some .boolean) ∈ xTs := x_memL xWk_11 55 rfl
theorem xw_716 : Cond.constant RX10 229 1103515245 ∈ xTs := x_memL xWk_11 56 rfl
theorem xw_717 : Cond.fieldLink RX10 250 "IceBoatsModel" "words" "I" ∈ xTs := x_memL xWk_11 57 rfl
theorem xw_718 : Cond.methodLink RX10 253 yX10_takes ∈ xTs := x_memL xWk_11 58 rfl
theorem xw_719 : Cond.instanceMethod yX10_takes ∈ xTs := x_memL xWk_11 59 rfl
def xWl_12 : List (Nat × Cond) := [(52, Cond.selects RX10 yX10_takes yX10_takes),
  (1338, Cond.code yX10_takes cX10_takes 4 none),
  (1339, Cond.methodLink RX10 263 yX10_keepsFar),
  (1341, Cond.instanceMethod yX10_keepsFar),
  (53, Cond.selects RX10 yX10_keepsFar yX10_keepsFar),
  (1342, Cond.code yX10_keepsFar cX10_keepsFar 8 none),
  (1343, Cond.methodLink RX10 266 yX10_nearer),
  (1345, Cond.instanceMethod yX10_nearer),
  (54, Cond.selects RX10 yX10_nearer yX10_nearer),
  (1346, Cond.code yX10_nearer cX10_nearer 5 (some .int)),
  (1347, Cond.methodLink RX10 257 yX10_least),
  (1348, Cond.static yX10_least),
  (1349, Cond.code yX10_least cX10_least 3 (some .int)),
  (1350, Cond.methodLink RX10 260 yX10_apart),
  (1351, Cond.static yX10_apart),
  (1352, Cond.code yX10_apart cX10_apart 4 (some .int)),
  (1361, Cond.methodLink RX10 240 yX10_isLook),
  (1363, Cond.instanceMethod yX10_isLook),
  (55, Cond.selects RX10 yX10_isLook yX10_isLook),
  (1364, Cond.code yX10_isLook cX10_isLook 2 (some .boolean)),
  (1365, Cond.methodLink RX10 243 yX10_lookTells),
  (1367, Cond.instanceMethod yX10_lookTells),
  (56, Cond.selects RX10 yX10_lookTells yX10_lookTells),
  (1368, Cond.code yX10_lookTells cX10_lookTells 3 (some .int)),
  (1381, Cond.methodLink RX10 246 yX10_isSaid),
  (1383, Cond.instanceMethod yX10_isSaid),
  (57, Cond.selects RX10 yX10_isSaid yX10_isSaid),
  (1384, Cond.code yX10_isSaid cX10_isSaid 3 (some .boolean)),
  (1389, Cond.methodLink RX10 269 yX10_isWord),
  (1391, Cond.instanceMethod yX10_isWord),
  (58, Cond.selects RX10 yX10_isWord yX10_isWord),
  (1392, Cond.code yX10_isWord cX10_isWord 2 (some .boolean)),
  (1393, Cond.methodLink RX10 272 yX10_wordTells),
  (1395, Cond.instanceMethod yX10_wordTells),
  (59, Cond.selects RX10 yX10_wordTells yX10_wordTells),
  (1396, Cond.code yX10_wordTells cX10_wordTells 3 (some .int)),
  (1409, Cond.methodLink RX10 282 yX10_knowsOf),
  (1411, Cond.instanceMethod yX10_knowsOf),
  (60, Cond.selects RX10 yX10_knowsOf yX10_knowsOf),
  (1412, Cond.code yX10_knowsOf cX10_knowsOf 5 (some .int)),
  (1413, Cond.methodLink RX10 275 yX10_knowsAt),
  (1415, Cond.instanceMethod yX10_knowsAt),
  (61, Cond.selects RX10 yX10_knowsAt yX10_knowsAt),
  (1416, Cond.code yX10_knowsAt cX10_knowsAt 3 (some .int)),
  (1417, Cond.methodLink RX10 278 yX10_learns),
  (1419, Cond.instanceMethod yX10_learns),
  (62, Cond.selects RX10 yX10_learns yX10_learns),
  (1420, Cond.code yX10_learns cX10_learns 7 (some .int)),
  (1429, Cond.methodLink RX10 289 yX10_reads),
  (1431, Cond.instanceMethod yX10_reads),
  (63, Cond.selects RX10 yX10_reads yX10_reads),
  (1432, Cond.code yX10_reads cX10_reads 6 (some .int)),
  (1433, Cond.methodLink RX10 286 yX10_letter),
  (1434, Cond.static yX10_letter),
  (1435, Cond.code yX10_letter cX10_letter 1 (some .int)),
  (1452, Cond.methodLink RX10 292 yX10_isMap),
  (1454, Cond.instanceMethod yX10_isMap),
  (64, Cond.selects RX10 yX10_isMap yX10_isMap),
  (1455, Cond.code yX10_isMap cX10_isMap 4 (some .boolean)),
  (1456, Cond.methodLink RX10 295 yX10_agrees)]
theorem xWk_12 : xWl_12.all (fun q => decide (lw_tbl[q.1]? = some q.2) && goodWord q.2) = true := by decide +kernel
theorem xw_720 : Cond.selects RX10 yX10_takes yX10_takes ∈ xTs := x_memL xWk_12 0 rfl
theorem xw_721 : Cond.code yX10_takes cX10_takes 4 none ∈ xTs := x_memL xWk_12 1 rfl
theorem xw_722 : Cond.methodLink RX10 263 yX10_keepsFar ∈ xTs := x_memL xWk_12 2 rfl
theorem xw_723 : Cond.instanceMethod yX10_keepsFar ∈ xTs := x_memL xWk_12 3 rfl
theorem xw_724 : Cond.selects RX10 yX10_keepsFar yX10_keepsFar ∈ xTs := x_memL xWk_12 4 rfl
theorem xw_725 : Cond.code yX10_keepsFar cX10_keepsFar 8 none ∈ xTs := x_memL xWk_12 5 rfl
theorem xw_726 : Cond.methodLink RX10 266 yX10_nearer ∈ xTs := x_memL xWk_12 6 rfl
theorem xw_727 : Cond.instanceMethod yX10_nearer ∈ xTs := x_memL xWk_12 7 rfl
theorem xw_728 : Cond.selects RX10 yX10_nearer yX10_nearer ∈ xTs := x_memL xWk_12 8 rfl
theorem xw_729 : Cond.code yX10_nearer cX10_nearer 5 (some .int) ∈ xTs := x_memL xWk_12 9 rfl
theorem xw_730 : Cond.methodLink RX10 257 yX10_least ∈ xTs := x_memL xWk_12 10 rfl
theorem xw_731 : Cond.static yX10_least ∈ xTs := x_memL xWk_12 11 rfl
theorem xw_732 : Cond.code yX10_least cX10_least 3 (some .int) ∈ xTs := x_memL xWk_12 12 rfl
theorem xw_733 : Cond.methodLink RX10 260 yX10_apart ∈ xTs := x_memL xWk_12 13 rfl
theorem xw_734 : Cond.static yX10_apart ∈ xTs := x_memL xWk_12 14 rfl
theorem xw_735 : Cond.code yX10_apart cX10_apart 4 (some .int) ∈ xTs := x_memL xWk_12 15 rfl
theorem xw_736 : Cond.methodLink RX10 240 yX10_isLook ∈ xTs := x_memL xWk_12 16 rfl
theorem xw_737 : Cond.instanceMethod yX10_isLook ∈ xTs := x_memL xWk_12 17 rfl
theorem xw_738 : Cond.selects RX10 yX10_isLook yX10_isLook ∈ xTs := x_memL xWk_12 18 rfl
theorem xw_739 : Cond.code yX10_isLook cX10_isLook 2 (some .boolean) ∈ xTs := x_memL xWk_12 19 rfl
theorem xw_740 : Cond.methodLink RX10 243 yX10_lookTells ∈ xTs := x_memL xWk_12 20 rfl
theorem xw_741 : Cond.instanceMethod yX10_lookTells ∈ xTs := x_memL xWk_12 21 rfl
theorem xw_742 : Cond.selects RX10 yX10_lookTells yX10_lookTells ∈ xTs := x_memL xWk_12 22 rfl
theorem xw_743 : Cond.code yX10_lookTells cX10_lookTells 3 (some .int) ∈ xTs := x_memL xWk_12 23 rfl
theorem xw_744 : Cond.methodLink RX10 246 yX10_isSaid ∈ xTs := x_memL xWk_12 24 rfl
theorem xw_745 : Cond.instanceMethod yX10_isSaid ∈ xTs := x_memL xWk_12 25 rfl
theorem xw_746 : Cond.selects RX10 yX10_isSaid yX10_isSaid ∈ xTs := x_memL xWk_12 26 rfl
theorem xw_747 : Cond.code yX10_isSaid cX10_isSaid 3 (some .boolean) ∈ xTs := x_memL xWk_12 27 rfl
theorem xw_748 : Cond.methodLink RX10 269 yX10_isWord ∈ xTs := x_memL xWk_12 28 rfl
theorem xw_749 : Cond.instanceMethod yX10_isWord ∈ xTs := x_memL xWk_12 29 rfl
theorem xw_750 : Cond.selects RX10 yX10_isWord yX10_isWord ∈ xTs := x_memL xWk_12 30 rfl
theorem xw_751 : Cond.code yX10_isWord cX10_isWord 2 (some .boolean) ∈ xTs := x_memL xWk_12 31 rfl
theorem xw_752 : Cond.methodLink RX10 272 yX10_wordTells ∈ xTs := x_memL xWk_12 32 rfl
theorem xw_753 : Cond.instanceMethod yX10_wordTells ∈ xTs := x_memL xWk_12 33 rfl
theorem xw_754 : Cond.selects RX10 yX10_wordTells yX10_wordTells ∈ xTs := x_memL xWk_12 34 rfl
theorem xw_755 : Cond.code yX10_wordTells cX10_wordTells 3 (some .int) ∈ xTs := x_memL xWk_12 35 rfl
theorem xw_756 : Cond.methodLink RX10 282 yX10_knowsOf ∈ xTs := x_memL xWk_12 36 rfl
theorem xw_757 : Cond.instanceMethod yX10_knowsOf ∈ xTs := x_memL xWk_12 37 rfl
theorem xw_758 : Cond.selects RX10 yX10_knowsOf yX10_knowsOf ∈ xTs := x_memL xWk_12 38 rfl
theorem xw_759 : Cond.code yX10_knowsOf cX10_knowsOf 5 (some .int) ∈ xTs := x_memL xWk_12 39 rfl
theorem xw_760 : Cond.methodLink RX10 275 yX10_knowsAt ∈ xTs := x_memL xWk_12 40 rfl
theorem xw_761 : Cond.instanceMethod yX10_knowsAt ∈ xTs := x_memL xWk_12 41 rfl
theorem xw_762 : Cond.selects RX10 yX10_knowsAt yX10_knowsAt ∈ xTs := x_memL xWk_12 42 rfl
theorem xw_763 : Cond.code yX10_knowsAt cX10_knowsAt 3 (some .int) ∈ xTs := x_memL xWk_12 43 rfl
theorem xw_764 : Cond.methodLink RX10 278 yX10_learns ∈ xTs := x_memL xWk_12 44 rfl
theorem xw_765 : Cond.instanceMethod yX10_learns ∈ xTs := x_memL xWk_12 45 rfl
theorem xw_766 : Cond.selects RX10 yX10_learns yX10_learns ∈ xTs := x_memL xWk_12 46 rfl
theorem xw_767 : Cond.code yX10_learns cX10_learns 7 (some .int) ∈ xTs := x_memL xWk_12 47 rfl
theorem xw_768 : Cond.methodLink RX10 289 yX10_reads ∈ xTs := x_memL xWk_12 48 rfl
theorem xw_769 : Cond.instanceMethod yX10_reads ∈ xTs := x_memL xWk_12 49 rfl
theorem xw_770 : Cond.selects RX10 yX10_reads yX10_reads ∈ xTs := x_memL xWk_12 50 rfl
theorem xw_771 : Cond.code yX10_reads cX10_reads 6 (some .int) ∈ xTs := x_memL xWk_12 51 rfl
theorem xw_772 : Cond.methodLink RX10 286 yX10_letter ∈ xTs := x_memL xWk_12 52 rfl
theorem xw_773 : Cond.static yX10_letter ∈ xTs := x_memL xWk_12 53 rfl
theorem xw_774 : Cond.code yX10_letter cX10_letter 1 (some .int) ∈ xTs := x_memL xWk_12 54 rfl
theorem xw_775 : Cond.methodLink RX10 292 yX10_isMap ∈ xTs := x_memL xWk_12 55 rfl
theorem xw_776 : Cond.instanceMethod yX10_isMap ∈ xTs := x_memL xWk_12 56 rfl
theorem xw_777 : Cond.selects RX10 yX10_isMap yX10_isMap ∈ xTs := x_memL xWk_12 57 rfl
theorem xw_778 : Cond.code yX10_isMap cX10_isMap 4 (some .boolean) ∈ xTs := x_memL xWk_12 58 rfl
theorem xw_779 : Cond.methodLink RX10 295 yX10_agrees ∈ xTs := x_memL xWk_12 59 rfl
def xWl_13 : List (Nat × Cond) := [(1458, Cond.instanceMethod yX10_agrees),
  (65, Cond.selects RX10 yX10_agrees yX10_agrees),
  (1459, Cond.code yX10_agrees cX10_agrees 11 (some .int)),
  (1468, Cond.methodLink RX10 298 yX10_areWays),
  (1470, Cond.instanceMethod yX10_areWays),
  (66, Cond.selects RX10 yX10_areWays yX10_areWays),
  (1471, Cond.code yX10_areWays cX10_areWays 5 (some .boolean)),
  (1472, Cond.methodLink RX10 301 yX10_comesBy),
  (1474, Cond.instanceMethod yX10_comesBy),
  (67, Cond.selects RX10 yX10_comesBy yX10_comesBy),
  (1475, Cond.code yX10_comesBy cX10_comesBy 8 (some .long)),
  (1480, Cond.methodLink RX10 308 yX10_askedWays),
  (1482, Cond.instanceMethod yX10_askedWays),
  (68, Cond.selects RX10 yX10_askedWays yX10_askedWays),
  (1483, Cond.code yX10_askedWays cX10_askedWays 4 (some .int)),
  (1484, Cond.constantLong RX10 311 4),
  (1485, Cond.constantLong RX10 313 3),
  (1486, Cond.methodLink RX10 315 yX10_share),
  (1488, Cond.instanceMethod yX10_share),
  (69, Cond.selects RX10 yX10_share yX10_share),
  (1489, Cond.code yX10_share cX10_share 11 (some .int)),
  (1016, Cond.fieldLink RX10 305 "IceBoatsModel" "upper" "J"),
  (1494, Cond.methodLink RX10 319 yX10_isCourse),
  (1496, Cond.instanceMethod yX10_isCourse),
  (70, Cond.selects RX10 yX10_isCourse yX10_isCourse),
  (1497, Cond.code yX10_isCourse cX10_isCourse 10 (some .boolean)),
  (1518, Cond.methodLink RX10 323 yX10_counts),
  (1520, Cond.instanceMethod yX10_counts),
  (71, Cond.selects RX10 yX10_counts yX10_counts),
  (1521, Cond.code yX10_counts cX10_counts 4 (some .int)),
  (1534, Cond.constantLong RX10 335 17),
  (1062, Cond.fieldLink RX10 328 "IceBoatsModel" "h" "J"),
  (1535, Cond.methodLink RX10 331 yX10_mix),
  (1537, Cond.instanceMethod yX10_mix),
  (72, Cond.selects RX10 yX10_mix yX10_mix),
  (1538, Cond.code yX10_mix cX10_mix 3 none),
  (1540, Cond.methodLink RX10 337 yX10_mixBoats),
  (1542, Cond.instanceMethod yX10_mixBoats),
  (73, Cond.selects RX10 yX10_mixBoats yX10_mixBoats),
  (1543, Cond.code yX10_mixBoats cX10_mixBoats 3 none),
  (1544, Cond.methodLink RX10 340 yX10_mixWords),
  (1546, Cond.instanceMethod yX10_mixWords),
  (74, Cond.selects RX10 yX10_mixWords yX10_mixWords),
  (1547, Cond.code yX10_mixWords cX10_mixWords 3 none),
  (1548, Cond.constantLong RX10 343 (-1)),
  (1539, Cond.constantLong RX10 326 31),
  (91, Cond.classLink "IceBoatsLaw" 7 RX9),
  (92, Cond.instantiable RX9 19),
  (93, Cond.methodLink "IceBoatsLaw" 9 yX9_init),
  (94, Cond.instanceMethod yX9_init),
  (95, Cond.code yX9_init cX9_init 2 none),
  (1006, Cond.classLink "IceBoatsLaw" 10 RX10),
  (1007, Cond.instantiable RX10 51),
  (1008, Cond.methodLink "IceBoatsLaw" 12 yX10_init),
  (1009, Cond.instanceMethod yX10_init),
  (1010, Cond.code yX10_init cX10_init 2 none),
  (340, Cond.methodLink "IceBoatsLaw" 13 yX9_row),
  (341, Cond.instanceMethod yX9_row),
  (342, Cond.selects RX9 yX9_row yX9_row),
  (343, Cond.code yX9_row cX9_row 4 (some .int))]
theorem xWk_13 : xWl_13.all (fun q => decide (lw_tbl[q.1]? = some q.2) && goodWord q.2) = true := by decide +kernel
theorem xw_780 : Cond.instanceMethod yX10_agrees ∈ xTs := x_memL xWk_13 0 rfl
theorem xw_781 : Cond.selects RX10 yX10_agrees yX10_agrees ∈ xTs := x_memL xWk_13 1 rfl
theorem xw_782 : Cond.code yX10_agrees cX10_agrees 11 (some .int) ∈ xTs := x_memL xWk_13 2 rfl
theorem xw_783 : Cond.methodLink RX10 298 yX10_areWays ∈ xTs := x_memL xWk_13 3 rfl
theorem xw_784 : Cond.instanceMethod yX10_areWays ∈ xTs := x_memL xWk_13 4 rfl
theorem xw_785 : Cond.selects RX10 yX10_areWays yX10_areWays ∈ xTs := x_memL xWk_13 5 rfl
theorem xw_786 : Cond.code yX10_areWays cX10_areWays 5 (some .boolean) ∈ xTs := x_memL xWk_13 6 rfl
theorem xw_787 : Cond.methodLink RX10 301 yX10_comesBy ∈ xTs := x_memL xWk_13 7 rfl
theorem xw_788 : Cond.instanceMethod yX10_comesBy ∈ xTs := x_memL xWk_13 8 rfl
theorem xw_789 : Cond.selects RX10 yX10_comesBy yX10_comesBy ∈ xTs := x_memL xWk_13 9 rfl
theorem xw_790 : Cond.code yX10_comesBy cX10_comesBy 8 (some .long) ∈ xTs := x_memL xWk_13 10 rfl
theorem xw_791 : Cond.methodLink RX10 308 yX10_askedWays ∈ xTs := x_memL xWk_13 11 rfl
theorem xw_792 : Cond.instanceMethod yX10_askedWays ∈ xTs := x_memL xWk_13 12 rfl
theorem xw_793 : Cond.selects RX10 yX10_askedWays yX10_askedWays ∈ xTs := x_memL xWk_13 13 rfl
theorem xw_794 : Cond.code yX10_askedWays cX10_askedWays 4 (some .int) ∈ xTs := x_memL xWk_13 14 rfl
theorem xw_795 : Cond.constantLong RX10 311 4 ∈ xTs := x_memL xWk_13 15 rfl
theorem xw_796 : Cond.constantLong RX10 313 3 ∈ xTs := x_memL xWk_13 16 rfl
theorem xw_797 : Cond.methodLink RX10 315 yX10_share ∈ xTs := x_memL xWk_13 17 rfl
theorem xw_798 : Cond.instanceMethod yX10_share ∈ xTs := x_memL xWk_13 18 rfl
theorem xw_799 : Cond.selects RX10 yX10_share yX10_share ∈ xTs := x_memL xWk_13 19 rfl
theorem xw_800 : Cond.code yX10_share cX10_share 11 (some .int) ∈ xTs := x_memL xWk_13 20 rfl
theorem xw_801 : Cond.fieldLink RX10 305 "IceBoatsModel" "upper" "J" ∈ xTs := x_memL xWk_13 21 rfl
theorem xw_802 : Cond.methodLink RX10 319 yX10_isCourse ∈ xTs := x_memL xWk_13 22 rfl
theorem xw_803 : Cond.instanceMethod yX10_isCourse ∈ xTs := x_memL xWk_13 23 rfl
theorem xw_804 : Cond.selects RX10 yX10_isCourse yX10_isCourse ∈ xTs := x_memL xWk_13 24 rfl
theorem xw_805 : Cond.code yX10_isCourse cX10_isCourse 10 (some .boolean) ∈ xTs := x_memL xWk_13 25 rfl
theorem xw_806 : Cond.methodLink RX10 323 yX10_counts ∈ xTs := x_memL xWk_13 26 rfl
theorem xw_807 : Cond.instanceMethod yX10_counts ∈ xTs := x_memL xWk_13 27 rfl
theorem xw_808 : Cond.selects RX10 yX10_counts yX10_counts ∈ xTs := x_memL xWk_13 28 rfl
theorem xw_809 : Cond.code yX10_counts cX10_counts 4 (some .int) ∈ xTs := x_memL xWk_13 29 rfl
theorem xw_810 : Cond.constantLong RX10 335 17 ∈ xTs := x_memL xWk_13 30 rfl
theorem xw_811 : Cond.fieldLink RX10 328 "IceBoatsModel" "h" "J" ∈ xTs := x_memL xWk_13 31 rfl
theorem xw_812 : Cond.methodLink RX10 331 yX10_mix ∈ xTs := x_memL xWk_13 32 rfl
theorem xw_813 : Cond.instanceMethod yX10_mix ∈ xTs := x_memL xWk_13 33 rfl
theorem xw_814 : Cond.selects RX10 yX10_mix yX10_mix ∈ xTs := x_memL xWk_13 34 rfl
theorem xw_815 : Cond.code yX10_mix cX10_mix 3 none ∈ xTs := x_memL xWk_13 35 rfl
theorem xw_816 : Cond.methodLink RX10 337 yX10_mixBoats ∈ xTs := x_memL xWk_13 36 rfl
theorem xw_817 : Cond.instanceMethod yX10_mixBoats ∈ xTs := x_memL xWk_13 37 rfl
theorem xw_818 : Cond.selects RX10 yX10_mixBoats yX10_mixBoats ∈ xTs := x_memL xWk_13 38 rfl
theorem xw_819 : Cond.code yX10_mixBoats cX10_mixBoats 3 none ∈ xTs := x_memL xWk_13 39 rfl
theorem xw_820 : Cond.methodLink RX10 340 yX10_mixWords ∈ xTs := x_memL xWk_13 40 rfl
theorem xw_821 : Cond.instanceMethod yX10_mixWords ∈ xTs := x_memL xWk_13 41 rfl
theorem xw_822 : Cond.selects RX10 yX10_mixWords yX10_mixWords ∈ xTs := x_memL xWk_13 42 rfl
theorem xw_823 : Cond.code yX10_mixWords cX10_mixWords 3 none ∈ xTs := x_memL xWk_13 43 rfl
theorem xw_824 : Cond.constantLong RX10 343 (-1) ∈ xTs := x_memL xWk_13 44 rfl
theorem xw_825 : Cond.constantLong RX10 326 31 ∈ xTs := x_memL xWk_13 45 rfl
theorem xw_826 : Cond.classLink "IceBoatsLaw" 7 RX9 ∈ xTs := x_memL xWk_13 46 rfl
theorem xw_827 : Cond.instantiable RX9 19 ∈ xTs := x_memL xWk_13 47 rfl
theorem xw_828 : Cond.methodLink "IceBoatsLaw" 9 yX9_init ∈ xTs := x_memL xWk_13 48 rfl
theorem xw_829 : Cond.instanceMethod yX9_init ∈ xTs := x_memL xWk_13 49 rfl
theorem xw_830 : Cond.code yX9_init cX9_init 2 none ∈ xTs := x_memL xWk_13 50 rfl
theorem xw_831 : Cond.classLink "IceBoatsLaw" 10 RX10 ∈ xTs := x_memL xWk_13 51 rfl
theorem xw_832 : Cond.instantiable RX10 51 ∈ xTs := x_memL xWk_13 52 rfl
theorem xw_833 : Cond.methodLink "IceBoatsLaw" 12 yX10_init ∈ xTs := x_memL xWk_13 53 rfl
theorem xw_834 : Cond.instanceMethod yX10_init ∈ xTs := x_memL xWk_13 54 rfl
theorem xw_835 : Cond.code yX10_init cX10_init 2 none ∈ xTs := x_memL xWk_13 55 rfl
theorem xw_836 : Cond.methodLink "IceBoatsLaw" 13 yX9_row ∈ xTs := x_memL xWk_13 56 rfl
theorem xw_837 : Cond.instanceMethod yX9_row ∈ xTs := x_memL xWk_13 57 rfl
theorem xw_838 : Cond.selects RX9 yX9_row yX9_row ∈ xTs := x_memL xWk_13 58 rfl
theorem xw_839 : Cond.code yX9_row cX9_row 4 (some .int) ∈ xTs := x_memL xWk_13 59 rfl
def xWl_14 : List (Nat × Cond) := [(1166, Cond.methodLink "IceBoatsLaw" 17 yX10_row),
  (1167, Cond.instanceMethod yX10_row),
  (1168, Cond.selects RX10 yX10_row yX10_row),
  (1169, Cond.code yX10_row cX10_row 4 (some .int)),
  (356, Cond.methodLink "IceBoatsLaw" 18 yX9_lay),
  (357, Cond.instanceMethod yX9_lay),
  (358, Cond.selects RX9 yX9_lay yX9_lay),
  (359, Cond.code yX9_lay cX9_lay 6 (some .int)),
  (1180, Cond.methodLink "IceBoatsLaw" 22 yX10_lay),
  (1181, Cond.instanceMethod yX10_lay),
  (1182, Cond.selects RX10 yX10_lay yX10_lay),
  (1183, Cond.code yX10_lay cX10_lay 5 (some .int)),
  (372, Cond.methodLink "IceBoatsLaw" 23 yX9_tear),
  (373, Cond.instanceMethod yX9_tear),
  (374, Cond.selects RX9 yX9_tear yX9_tear),
  (375, Cond.code yX9_tear cX9_tear 3 (some .int)),
  (1192, Cond.methodLink "IceBoatsLaw" 27 yX10_tear),
  (1193, Cond.instanceMethod yX10_tear),
  (1194, Cond.selects RX10 yX10_tear yX10_tear),
  (1195, Cond.code yX10_tear cX10_tear 3 (some .int)),
  (376, Cond.methodLink "IceBoatsLaw" 28 yX9_copy),
  (377, Cond.instanceMethod yX9_copy),
  (378, Cond.selects RX9 yX9_copy yX9_copy),
  (379, Cond.code yX9_copy cX9_copy 8 (some .int)),
  (1196, Cond.methodLink "IceBoatsLaw" 32 yX10_copy),
  (1197, Cond.instanceMethod yX10_copy),
  (1198, Cond.selects RX10 yX10_copy yX10_copy),
  (1199, Cond.code yX10_copy cX10_copy 7 (some .int)),
  (383, Cond.methodLink "IceBoatsLaw" 33 yX9_mean),
  (384, Cond.instanceMethod yX9_mean),
  (385, Cond.selects RX9 yX9_mean yX9_mean),
  (386, Cond.code yX9_mean cX9_mean 6 (some .int)),
  (1200, Cond.methodLink "IceBoatsLaw" 36 yX10_mean),
  (1201, Cond.instanceMethod yX10_mean),
  (1202, Cond.selects RX10 yX10_mean yX10_mean),
  (1203, Cond.code yX10_mean cX10_mean 6 (some .int)),
  (387, Cond.methodLink "IceBoatsLaw" 37 yX9_text),
  (388, Cond.instanceMethod yX9_text),
  (389, Cond.selects RX9 yX9_text yX9_text),
  (390, Cond.code yX9_text cX9_text 4 (some .int)),
  (1208, Cond.methodLink "IceBoatsLaw" 40 yX10_text),
  (1209, Cond.instanceMethod yX10_text),
  (1210, Cond.selects RX10 yX10_text yX10_text),
  (1211, Cond.code yX10_text cX10_text 4 (some .int)),
  (395, Cond.methodLink "IceBoatsLaw" 41 yX9_put),
  (396, Cond.instanceMethod yX9_put),
  (397, Cond.selects RX9 yX9_put yX9_put),
  (398, Cond.code yX9_put cX9_put 6 (some .int)),
  (1215, Cond.methodLink "IceBoatsLaw" 44 yX10_put),
  (1216, Cond.instanceMethod yX10_put),
  (1217, Cond.selects RX10 yX10_put yX10_put),
  (1218, Cond.code yX10_put cX10_put 6 (some .int)),
  (399, Cond.methodLink "IceBoatsLaw" 45 yX9_rock),
  (400, Cond.instanceMethod yX9_rock),
  (401, Cond.selects RX9 yX9_rock yX9_rock),
  (402, Cond.code yX9_rock cX9_rock 4 (some .int)),
  (1223, Cond.methodLink "IceBoatsLaw" 49 yX10_rock),
  (1224, Cond.instanceMethod yX10_rock),
  (1225, Cond.selects RX10 yX10_rock yX10_rock),
  (1226, Cond.code yX10_rock cX10_rock 4 (some .int))]
theorem xWk_14 : xWl_14.all (fun q => decide (lw_tbl[q.1]? = some q.2) && goodWord q.2) = true := by decide +kernel
theorem xw_840 : Cond.methodLink "IceBoatsLaw" 17 yX10_row ∈ xTs := x_memL xWk_14 0 rfl
theorem xw_841 : Cond.instanceMethod yX10_row ∈ xTs := x_memL xWk_14 1 rfl
theorem xw_842 : Cond.selects RX10 yX10_row yX10_row ∈ xTs := x_memL xWk_14 2 rfl
theorem xw_843 : Cond.code yX10_row cX10_row 4 (some .int) ∈ xTs := x_memL xWk_14 3 rfl
theorem xw_844 : Cond.methodLink "IceBoatsLaw" 18 yX9_lay ∈ xTs := x_memL xWk_14 4 rfl
theorem xw_845 : Cond.instanceMethod yX9_lay ∈ xTs := x_memL xWk_14 5 rfl
theorem xw_846 : Cond.selects RX9 yX9_lay yX9_lay ∈ xTs := x_memL xWk_14 6 rfl
theorem xw_847 : Cond.code yX9_lay cX9_lay 6 (some .int) ∈ xTs := x_memL xWk_14 7 rfl
theorem xw_848 : Cond.methodLink "IceBoatsLaw" 22 yX10_lay ∈ xTs := x_memL xWk_14 8 rfl
theorem xw_849 : Cond.instanceMethod yX10_lay ∈ xTs := x_memL xWk_14 9 rfl
theorem xw_850 : Cond.selects RX10 yX10_lay yX10_lay ∈ xTs := x_memL xWk_14 10 rfl
theorem xw_851 : Cond.code yX10_lay cX10_lay 5 (some .int) ∈ xTs := x_memL xWk_14 11 rfl
theorem xw_852 : Cond.methodLink "IceBoatsLaw" 23 yX9_tear ∈ xTs := x_memL xWk_14 12 rfl
theorem xw_853 : Cond.instanceMethod yX9_tear ∈ xTs := x_memL xWk_14 13 rfl
theorem xw_854 : Cond.selects RX9 yX9_tear yX9_tear ∈ xTs := x_memL xWk_14 14 rfl
theorem xw_855 : Cond.code yX9_tear cX9_tear 3 (some .int) ∈ xTs := x_memL xWk_14 15 rfl
theorem xw_856 : Cond.methodLink "IceBoatsLaw" 27 yX10_tear ∈ xTs := x_memL xWk_14 16 rfl
theorem xw_857 : Cond.instanceMethod yX10_tear ∈ xTs := x_memL xWk_14 17 rfl
theorem xw_858 : Cond.selects RX10 yX10_tear yX10_tear ∈ xTs := x_memL xWk_14 18 rfl
theorem xw_859 : Cond.code yX10_tear cX10_tear 3 (some .int) ∈ xTs := x_memL xWk_14 19 rfl
theorem xw_860 : Cond.methodLink "IceBoatsLaw" 28 yX9_copy ∈ xTs := x_memL xWk_14 20 rfl
theorem xw_861 : Cond.instanceMethod yX9_copy ∈ xTs := x_memL xWk_14 21 rfl
theorem xw_862 : Cond.selects RX9 yX9_copy yX9_copy ∈ xTs := x_memL xWk_14 22 rfl
theorem xw_863 : Cond.code yX9_copy cX9_copy 8 (some .int) ∈ xTs := x_memL xWk_14 23 rfl
theorem xw_864 : Cond.methodLink "IceBoatsLaw" 32 yX10_copy ∈ xTs := x_memL xWk_14 24 rfl
theorem xw_865 : Cond.instanceMethod yX10_copy ∈ xTs := x_memL xWk_14 25 rfl
theorem xw_866 : Cond.selects RX10 yX10_copy yX10_copy ∈ xTs := x_memL xWk_14 26 rfl
theorem xw_867 : Cond.code yX10_copy cX10_copy 7 (some .int) ∈ xTs := x_memL xWk_14 27 rfl
theorem xw_868 : Cond.methodLink "IceBoatsLaw" 33 yX9_mean ∈ xTs := x_memL xWk_14 28 rfl
theorem xw_869 : Cond.instanceMethod yX9_mean ∈ xTs := x_memL xWk_14 29 rfl
theorem xw_870 : Cond.selects RX9 yX9_mean yX9_mean ∈ xTs := x_memL xWk_14 30 rfl
theorem xw_871 : Cond.code yX9_mean cX9_mean 6 (some .int) ∈ xTs := x_memL xWk_14 31 rfl
theorem xw_872 : Cond.methodLink "IceBoatsLaw" 36 yX10_mean ∈ xTs := x_memL xWk_14 32 rfl
theorem xw_873 : Cond.instanceMethod yX10_mean ∈ xTs := x_memL xWk_14 33 rfl
theorem xw_874 : Cond.selects RX10 yX10_mean yX10_mean ∈ xTs := x_memL xWk_14 34 rfl
theorem xw_875 : Cond.code yX10_mean cX10_mean 6 (some .int) ∈ xTs := x_memL xWk_14 35 rfl
theorem xw_876 : Cond.methodLink "IceBoatsLaw" 37 yX9_text ∈ xTs := x_memL xWk_14 36 rfl
theorem xw_877 : Cond.instanceMethod yX9_text ∈ xTs := x_memL xWk_14 37 rfl
theorem xw_878 : Cond.selects RX9 yX9_text yX9_text ∈ xTs := x_memL xWk_14 38 rfl
theorem xw_879 : Cond.code yX9_text cX9_text 4 (some .int) ∈ xTs := x_memL xWk_14 39 rfl
theorem xw_880 : Cond.methodLink "IceBoatsLaw" 40 yX10_text ∈ xTs := x_memL xWk_14 40 rfl
theorem xw_881 : Cond.instanceMethod yX10_text ∈ xTs := x_memL xWk_14 41 rfl
theorem xw_882 : Cond.selects RX10 yX10_text yX10_text ∈ xTs := x_memL xWk_14 42 rfl
theorem xw_883 : Cond.code yX10_text cX10_text 4 (some .int) ∈ xTs := x_memL xWk_14 43 rfl
theorem xw_884 : Cond.methodLink "IceBoatsLaw" 41 yX9_put ∈ xTs := x_memL xWk_14 44 rfl
theorem xw_885 : Cond.instanceMethod yX9_put ∈ xTs := x_memL xWk_14 45 rfl
theorem xw_886 : Cond.selects RX9 yX9_put yX9_put ∈ xTs := x_memL xWk_14 46 rfl
theorem xw_887 : Cond.code yX9_put cX9_put 6 (some .int) ∈ xTs := x_memL xWk_14 47 rfl
theorem xw_888 : Cond.methodLink "IceBoatsLaw" 44 yX10_put ∈ xTs := x_memL xWk_14 48 rfl
theorem xw_889 : Cond.instanceMethod yX10_put ∈ xTs := x_memL xWk_14 49 rfl
theorem xw_890 : Cond.selects RX10 yX10_put yX10_put ∈ xTs := x_memL xWk_14 50 rfl
theorem xw_891 : Cond.code yX10_put cX10_put 6 (some .int) ∈ xTs := x_memL xWk_14 51 rfl
theorem xw_892 : Cond.methodLink "IceBoatsLaw" 45 yX9_rock ∈ xTs := x_memL xWk_14 52 rfl
theorem xw_893 : Cond.instanceMethod yX9_rock ∈ xTs := x_memL xWk_14 53 rfl
theorem xw_894 : Cond.selects RX9 yX9_rock yX9_rock ∈ xTs := x_memL xWk_14 54 rfl
theorem xw_895 : Cond.code yX9_rock cX9_rock 4 (some .int) ∈ xTs := x_memL xWk_14 55 rfl
theorem xw_896 : Cond.methodLink "IceBoatsLaw" 49 yX10_rock ∈ xTs := x_memL xWk_14 56 rfl
theorem xw_897 : Cond.instanceMethod yX10_rock ∈ xTs := x_memL xWk_14 57 rfl
theorem xw_898 : Cond.selects RX10 yX10_rock yX10_rock ∈ xTs := x_memL xWk_14 58 rfl
theorem xw_899 : Cond.code yX10_rock cX10_rock 4 (some .int) ∈ xTs := x_memL xWk_14 59 rfl
def xWl_15 : List (Nat × Cond) := [(421, Cond.methodLink "IceBoatsLaw" 50 yX9_cell),
  (422, Cond.instanceMethod yX9_cell),
  (423, Cond.selects RX9 yX9_cell yX9_cell),
  (424, Cond.code yX9_cell cX9_cell 5 (some .int)),
  (1234, Cond.methodLink "IceBoatsLaw" 54 yX10_cell),
  (1235, Cond.instanceMethod yX10_cell),
  (1236, Cond.selects RX10 yX10_cell yX10_cell),
  (1237, Cond.code yX10_cell cX10_cell 5 (some .int)),
  (435, Cond.methodLink "IceBoatsLaw" 55 yX9_sea),
  (436, Cond.instanceMethod yX9_sea),
  (437, Cond.selects RX9 yX9_sea yX9_sea),
  (438, Cond.code yX9_sea cX9_sea 3 (some .int)),
  (1244, Cond.methodLink "IceBoatsLaw" 58 yX10_sea),
  (1245, Cond.instanceMethod yX10_sea),
  (1246, Cond.selects RX10 yX10_sea yX10_sea),
  (1247, Cond.code yX10_sea cX10_sea 3 (some .int)),
  (444, Cond.methodLink "IceBoatsLaw" 59 yX9_chart),
  (445, Cond.instanceMethod yX9_chart),
  (446, Cond.selects RX9 yX9_chart yX9_chart),
  (447, Cond.code yX9_chart cX9_chart 3 (some .int)),
  (1252, Cond.methodLink "IceBoatsLaw" 62 yX10_chart),
  (1253, Cond.instanceMethod yX10_chart),
  (1254, Cond.selects RX10 yX10_chart yX10_chart),
  (1255, Cond.code yX10_chart cX10_chart 3 (some .int)),
  (448, Cond.methodLink "IceBoatsLaw" 63 yX9_hole),
  (449, Cond.instanceMethod yX9_hole),
  (450, Cond.selects RX9 yX9_hole yX9_hole),
  (451, Cond.code yX9_hole cX9_hole 3 (some .int)),
  (1256, Cond.methodLink "IceBoatsLaw" 66 yX10_hole),
  (1257, Cond.instanceMethod yX10_hole),
  (1258, Cond.selects RX10 yX10_hole yX10_hole),
  (1259, Cond.code yX10_hole cX10_hole 3 (some .int)),
  (452, Cond.methodLink "IceBoatsLaw" 67 yX9_seed),
  (453, Cond.instanceMethod yX9_seed),
  (454, Cond.selects RX9 yX9_seed yX9_seed),
  (455, Cond.code yX9_seed cX9_seed 2 (some .int)),
  (1260, Cond.methodLink "IceBoatsLaw" 70 yX10_seed),
  (1261, Cond.instanceMethod yX10_seed),
  (1262, Cond.selects RX10 yX10_seed yX10_seed),
  (1263, Cond.code yX10_seed cX10_seed 2 (some .int)),
  (456, Cond.methodLink "IceBoatsLaw" 71 yX9_boat),
  (457, Cond.instanceMethod yX9_boat),
  (458, Cond.selects RX9 yX9_boat yX9_boat),
  (459, Cond.code yX9_boat cX9_boat 6 (some .int)),
  (1277, Cond.methodLink "IceBoatsLaw" 74 yX10_boat),
  (1278, Cond.instanceMethod yX10_boat),
  (1279, Cond.selects RX10 yX10_boat yX10_boat),
  (1280, Cond.code yX10_boat cX10_boat 5 (some .int)),
  (471, Cond.methodLink "IceBoatsLaw" 75 yX9_told),
  (472, Cond.instanceMethod yX9_told),
  (473, Cond.selects RX9 yX9_told yX9_told),
  (474, Cond.code yX9_told cX9_told 4 (some .int)),
  (1284, Cond.methodLink "IceBoatsLaw" 78 yX10_told),
  (1285, Cond.instanceMethod yX10_told),
  (1286, Cond.selects RX10 yX10_told yX10_told),
  (1287, Cond.code yX10_told cX10_told 3 (some .int)),
  (490, Cond.methodLink "IceBoatsLaw" 79 yX9_mark),
  (491, Cond.instanceMethod yX9_mark),
  (492, Cond.selects RX9 yX9_mark yX9_mark),
  (493, Cond.code yX9_mark cX9_mark 4 (some .int))]
theorem xWk_15 : xWl_15.all (fun q => decide (lw_tbl[q.1]? = some q.2) && goodWord q.2) = true := by decide +kernel
theorem xw_900 : Cond.methodLink "IceBoatsLaw" 50 yX9_cell ∈ xTs := x_memL xWk_15 0 rfl
theorem xw_901 : Cond.instanceMethod yX9_cell ∈ xTs := x_memL xWk_15 1 rfl
theorem xw_902 : Cond.selects RX9 yX9_cell yX9_cell ∈ xTs := x_memL xWk_15 2 rfl
theorem xw_903 : Cond.code yX9_cell cX9_cell 5 (some .int) ∈ xTs := x_memL xWk_15 3 rfl
theorem xw_904 : Cond.methodLink "IceBoatsLaw" 54 yX10_cell ∈ xTs := x_memL xWk_15 4 rfl
theorem xw_905 : Cond.instanceMethod yX10_cell ∈ xTs := x_memL xWk_15 5 rfl
theorem xw_906 : Cond.selects RX10 yX10_cell yX10_cell ∈ xTs := x_memL xWk_15 6 rfl
theorem xw_907 : Cond.code yX10_cell cX10_cell 5 (some .int) ∈ xTs := x_memL xWk_15 7 rfl
theorem xw_908 : Cond.methodLink "IceBoatsLaw" 55 yX9_sea ∈ xTs := x_memL xWk_15 8 rfl
theorem xw_909 : Cond.instanceMethod yX9_sea ∈ xTs := x_memL xWk_15 9 rfl
theorem xw_910 : Cond.selects RX9 yX9_sea yX9_sea ∈ xTs := x_memL xWk_15 10 rfl
theorem xw_911 : Cond.code yX9_sea cX9_sea 3 (some .int) ∈ xTs := x_memL xWk_15 11 rfl
theorem xw_912 : Cond.methodLink "IceBoatsLaw" 58 yX10_sea ∈ xTs := x_memL xWk_15 12 rfl
theorem xw_913 : Cond.instanceMethod yX10_sea ∈ xTs := x_memL xWk_15 13 rfl
theorem xw_914 : Cond.selects RX10 yX10_sea yX10_sea ∈ xTs := x_memL xWk_15 14 rfl
theorem xw_915 : Cond.code yX10_sea cX10_sea 3 (some .int) ∈ xTs := x_memL xWk_15 15 rfl
theorem xw_916 : Cond.methodLink "IceBoatsLaw" 59 yX9_chart ∈ xTs := x_memL xWk_15 16 rfl
theorem xw_917 : Cond.instanceMethod yX9_chart ∈ xTs := x_memL xWk_15 17 rfl
theorem xw_918 : Cond.selects RX9 yX9_chart yX9_chart ∈ xTs := x_memL xWk_15 18 rfl
theorem xw_919 : Cond.code yX9_chart cX9_chart 3 (some .int) ∈ xTs := x_memL xWk_15 19 rfl
theorem xw_920 : Cond.methodLink "IceBoatsLaw" 62 yX10_chart ∈ xTs := x_memL xWk_15 20 rfl
theorem xw_921 : Cond.instanceMethod yX10_chart ∈ xTs := x_memL xWk_15 21 rfl
theorem xw_922 : Cond.selects RX10 yX10_chart yX10_chart ∈ xTs := x_memL xWk_15 22 rfl
theorem xw_923 : Cond.code yX10_chart cX10_chart 3 (some .int) ∈ xTs := x_memL xWk_15 23 rfl
theorem xw_924 : Cond.methodLink "IceBoatsLaw" 63 yX9_hole ∈ xTs := x_memL xWk_15 24 rfl
theorem xw_925 : Cond.instanceMethod yX9_hole ∈ xTs := x_memL xWk_15 25 rfl
theorem xw_926 : Cond.selects RX9 yX9_hole yX9_hole ∈ xTs := x_memL xWk_15 26 rfl
theorem xw_927 : Cond.code yX9_hole cX9_hole 3 (some .int) ∈ xTs := x_memL xWk_15 27 rfl
theorem xw_928 : Cond.methodLink "IceBoatsLaw" 66 yX10_hole ∈ xTs := x_memL xWk_15 28 rfl
theorem xw_929 : Cond.instanceMethod yX10_hole ∈ xTs := x_memL xWk_15 29 rfl
theorem xw_930 : Cond.selects RX10 yX10_hole yX10_hole ∈ xTs := x_memL xWk_15 30 rfl
theorem xw_931 : Cond.code yX10_hole cX10_hole 3 (some .int) ∈ xTs := x_memL xWk_15 31 rfl
theorem xw_932 : Cond.methodLink "IceBoatsLaw" 67 yX9_seed ∈ xTs := x_memL xWk_15 32 rfl
theorem xw_933 : Cond.instanceMethod yX9_seed ∈ xTs := x_memL xWk_15 33 rfl
theorem xw_934 : Cond.selects RX9 yX9_seed yX9_seed ∈ xTs := x_memL xWk_15 34 rfl
theorem xw_935 : Cond.code yX9_seed cX9_seed 2 (some .int) ∈ xTs := x_memL xWk_15 35 rfl
theorem xw_936 : Cond.methodLink "IceBoatsLaw" 70 yX10_seed ∈ xTs := x_memL xWk_15 36 rfl
theorem xw_937 : Cond.instanceMethod yX10_seed ∈ xTs := x_memL xWk_15 37 rfl
theorem xw_938 : Cond.selects RX10 yX10_seed yX10_seed ∈ xTs := x_memL xWk_15 38 rfl
theorem xw_939 : Cond.code yX10_seed cX10_seed 2 (some .int) ∈ xTs := x_memL xWk_15 39 rfl
theorem xw_940 : Cond.methodLink "IceBoatsLaw" 71 yX9_boat ∈ xTs := x_memL xWk_15 40 rfl
theorem xw_941 : Cond.instanceMethod yX9_boat ∈ xTs := x_memL xWk_15 41 rfl
theorem xw_942 : Cond.selects RX9 yX9_boat yX9_boat ∈ xTs := x_memL xWk_15 42 rfl
theorem xw_943 : Cond.code yX9_boat cX9_boat 6 (some .int) ∈ xTs := x_memL xWk_15 43 rfl
theorem xw_944 : Cond.methodLink "IceBoatsLaw" 74 yX10_boat ∈ xTs := x_memL xWk_15 44 rfl
theorem xw_945 : Cond.instanceMethod yX10_boat ∈ xTs := x_memL xWk_15 45 rfl
theorem xw_946 : Cond.selects RX10 yX10_boat yX10_boat ∈ xTs := x_memL xWk_15 46 rfl
theorem xw_947 : Cond.code yX10_boat cX10_boat 5 (some .int) ∈ xTs := x_memL xWk_15 47 rfl
theorem xw_948 : Cond.methodLink "IceBoatsLaw" 75 yX9_told ∈ xTs := x_memL xWk_15 48 rfl
theorem xw_949 : Cond.instanceMethod yX9_told ∈ xTs := x_memL xWk_15 49 rfl
theorem xw_950 : Cond.selects RX9 yX9_told yX9_told ∈ xTs := x_memL xWk_15 50 rfl
theorem xw_951 : Cond.code yX9_told cX9_told 4 (some .int) ∈ xTs := x_memL xWk_15 51 rfl
theorem xw_952 : Cond.methodLink "IceBoatsLaw" 78 yX10_told ∈ xTs := x_memL xWk_15 52 rfl
theorem xw_953 : Cond.instanceMethod yX10_told ∈ xTs := x_memL xWk_15 53 rfl
theorem xw_954 : Cond.selects RX10 yX10_told yX10_told ∈ xTs := x_memL xWk_15 54 rfl
theorem xw_955 : Cond.code yX10_told cX10_told 3 (some .int) ∈ xTs := x_memL xWk_15 55 rfl
theorem xw_956 : Cond.methodLink "IceBoatsLaw" 79 yX9_mark ∈ xTs := x_memL xWk_15 56 rfl
theorem xw_957 : Cond.instanceMethod yX9_mark ∈ xTs := x_memL xWk_15 57 rfl
theorem xw_958 : Cond.selects RX9 yX9_mark yX9_mark ∈ xTs := x_memL xWk_15 58 rfl
theorem xw_959 : Cond.code yX9_mark cX9_mark 4 (some .int) ∈ xTs := x_memL xWk_15 59 rfl
def xWl_16 : List (Nat × Cond) := [(1302, Cond.methodLink "IceBoatsLaw" 82 yX10_mark),
  (1303, Cond.instanceMethod yX10_mark),
  (1304, Cond.selects RX10 yX10_mark yX10_mark),
  (1305, Cond.code yX10_mark cX10_mark 6 (some .int)),
  (500, Cond.methodLink "IceBoatsLaw" 83 yX9_could),
  (501, Cond.instanceMethod yX9_could),
  (502, Cond.selects RX9 yX9_could yX9_could),
  (503, Cond.code yX9_could cX9_could 3 (some .int)),
  (1306, Cond.methodLink "IceBoatsLaw" 86 yX10_could),
  (1307, Cond.instanceMethod yX10_could),
  (1308, Cond.selects RX10 yX10_could yX10_could),
  (1309, Cond.code yX10_could cX10_could 2 (some .int)),
  (508, Cond.methodLink "IceBoatsLaw" 87 yX9_go),
  (509, Cond.instanceMethod yX9_go),
  (510, Cond.selects RX9 yX9_go yX9_go),
  (511, Cond.code yX9_go cX9_go 4 (some .int)),
  (1310, Cond.methodLink "IceBoatsLaw" 90 yX10_go),
  (1311, Cond.instanceMethod yX10_go),
  (1312, Cond.selects RX10 yX10_go yX10_go),
  (1313, Cond.code yX10_go cX10_go 3 (some .int)),
  (516, Cond.methodLink "IceBoatsLaw" 91 yX9_tick),
  (517, Cond.instanceMethod yX9_tick),
  (518, Cond.selects RX9 yX9_tick yX9_tick),
  (519, Cond.code yX9_tick cX9_tick 3 (some .int)),
  (1318, Cond.methodLink "IceBoatsLaw" 95 yX10_tick),
  (1319, Cond.instanceMethod yX10_tick),
  (1320, Cond.selects RX10 yX10_tick yX10_tick),
  (1321, Cond.code yX10_tick cX10_tick 5 (some .int)),
  (611, Cond.methodLink "IceBoatsLaw" 96 yX9_look),
  (612, Cond.instanceMethod yX9_look),
  (613, Cond.selects RX9 yX9_look yX9_look),
  (614, Cond.code yX9_look cX9_look 4 (some .int)),
  (1353, Cond.methodLink "IceBoatsLaw" 99 yX10_look),
  (1354, Cond.instanceMethod yX10_look),
  (1355, Cond.selects RX10 yX10_look yX10_look),
  (1356, Cond.code yX10_look cX10_look 3 (some .int)),
  (637, Cond.methodLink "IceBoatsLaw" 100 yX9_looked),
  (638, Cond.instanceMethod yX9_looked),
  (639, Cond.selects RX9 yX9_looked yX9_looked),
  (640, Cond.code yX9_looked cX9_looked 4 (some .int)),
  (1357, Cond.methodLink "IceBoatsLaw" 103 yX10_looked),
  (1358, Cond.instanceMethod yX10_looked),
  (1359, Cond.selects RX10 yX10_looked yX10_looked),
  (1360, Cond.code yX10_looked cX10_looked 3 (some .int)),
  (645, Cond.methodLink "IceBoatsLaw" 104 yX9_match),
  (646, Cond.instanceMethod yX9_match),
  (647, Cond.selects RX9 yX9_match yX9_match),
  (648, Cond.code yX9_match cX9_match 4 (some .int)),
  (1369, Cond.methodLink "IceBoatsLaw" 107 yX10_match),
  (1370, Cond.instanceMethod yX10_match),
  (1371, Cond.selects RX10 yX10_match yX10_match),
  (1372, Cond.code yX10_match cX10_match 7 (some .int)),
  (653, Cond.methodLink "IceBoatsLaw" 108 yX9_home),
  (654, Cond.instanceMethod yX9_home),
  (655, Cond.selects RX9 yX9_home yX9_home),
  (656, Cond.code yX9_home cX9_home 3 (some .int)),
  (1373, Cond.methodLink "IceBoatsLaw" 111 yX10_home),
  (1374, Cond.instanceMethod yX10_home),
  (1375, Cond.selects RX10 yX10_home yX10_home),
  (1376, Cond.code yX10_home cX10_home 2 (some .int))]
theorem xWk_16 : xWl_16.all (fun q => decide (lw_tbl[q.1]? = some q.2) && goodWord q.2) = true := by decide +kernel
theorem xw_960 : Cond.methodLink "IceBoatsLaw" 82 yX10_mark ∈ xTs := x_memL xWk_16 0 rfl
theorem xw_961 : Cond.instanceMethod yX10_mark ∈ xTs := x_memL xWk_16 1 rfl
theorem xw_962 : Cond.selects RX10 yX10_mark yX10_mark ∈ xTs := x_memL xWk_16 2 rfl
theorem xw_963 : Cond.code yX10_mark cX10_mark 6 (some .int) ∈ xTs := x_memL xWk_16 3 rfl
theorem xw_964 : Cond.methodLink "IceBoatsLaw" 83 yX9_could ∈ xTs := x_memL xWk_16 4 rfl
theorem xw_965 : Cond.instanceMethod yX9_could ∈ xTs := x_memL xWk_16 5 rfl
theorem xw_966 : Cond.selects RX9 yX9_could yX9_could ∈ xTs := x_memL xWk_16 6 rfl
theorem xw_967 : Cond.code yX9_could cX9_could 3 (some .int) ∈ xTs := x_memL xWk_16 7 rfl
theorem xw_968 : Cond.methodLink "IceBoatsLaw" 86 yX10_could ∈ xTs := x_memL xWk_16 8 rfl
theorem xw_969 : Cond.instanceMethod yX10_could ∈ xTs := x_memL xWk_16 9 rfl
theorem xw_970 : Cond.selects RX10 yX10_could yX10_could ∈ xTs := x_memL xWk_16 10 rfl
theorem xw_971 : Cond.code yX10_could cX10_could 2 (some .int) ∈ xTs := x_memL xWk_16 11 rfl
theorem xw_972 : Cond.methodLink "IceBoatsLaw" 87 yX9_go ∈ xTs := x_memL xWk_16 12 rfl
theorem xw_973 : Cond.instanceMethod yX9_go ∈ xTs := x_memL xWk_16 13 rfl
theorem xw_974 : Cond.selects RX9 yX9_go yX9_go ∈ xTs := x_memL xWk_16 14 rfl
theorem xw_975 : Cond.code yX9_go cX9_go 4 (some .int) ∈ xTs := x_memL xWk_16 15 rfl
theorem xw_976 : Cond.methodLink "IceBoatsLaw" 90 yX10_go ∈ xTs := x_memL xWk_16 16 rfl
theorem xw_977 : Cond.instanceMethod yX10_go ∈ xTs := x_memL xWk_16 17 rfl
theorem xw_978 : Cond.selects RX10 yX10_go yX10_go ∈ xTs := x_memL xWk_16 18 rfl
theorem xw_979 : Cond.code yX10_go cX10_go 3 (some .int) ∈ xTs := x_memL xWk_16 19 rfl
theorem xw_980 : Cond.methodLink "IceBoatsLaw" 91 yX9_tick ∈ xTs := x_memL xWk_16 20 rfl
theorem xw_981 : Cond.instanceMethod yX9_tick ∈ xTs := x_memL xWk_16 21 rfl
theorem xw_982 : Cond.selects RX9 yX9_tick yX9_tick ∈ xTs := x_memL xWk_16 22 rfl
theorem xw_983 : Cond.code yX9_tick cX9_tick 3 (some .int) ∈ xTs := x_memL xWk_16 23 rfl
theorem xw_984 : Cond.methodLink "IceBoatsLaw" 95 yX10_tick ∈ xTs := x_memL xWk_16 24 rfl
theorem xw_985 : Cond.instanceMethod yX10_tick ∈ xTs := x_memL xWk_16 25 rfl
theorem xw_986 : Cond.selects RX10 yX10_tick yX10_tick ∈ xTs := x_memL xWk_16 26 rfl
theorem xw_987 : Cond.code yX10_tick cX10_tick 5 (some .int) ∈ xTs := x_memL xWk_16 27 rfl
theorem xw_988 : Cond.methodLink "IceBoatsLaw" 96 yX9_look ∈ xTs := x_memL xWk_16 28 rfl
theorem xw_989 : Cond.instanceMethod yX9_look ∈ xTs := x_memL xWk_16 29 rfl
theorem xw_990 : Cond.selects RX9 yX9_look yX9_look ∈ xTs := x_memL xWk_16 30 rfl
theorem xw_991 : Cond.code yX9_look cX9_look 4 (some .int) ∈ xTs := x_memL xWk_16 31 rfl
theorem xw_992 : Cond.methodLink "IceBoatsLaw" 99 yX10_look ∈ xTs := x_memL xWk_16 32 rfl
theorem xw_993 : Cond.instanceMethod yX10_look ∈ xTs := x_memL xWk_16 33 rfl
theorem xw_994 : Cond.selects RX10 yX10_look yX10_look ∈ xTs := x_memL xWk_16 34 rfl
theorem xw_995 : Cond.code yX10_look cX10_look 3 (some .int) ∈ xTs := x_memL xWk_16 35 rfl
theorem xw_996 : Cond.methodLink "IceBoatsLaw" 100 yX9_looked ∈ xTs := x_memL xWk_16 36 rfl
theorem xw_997 : Cond.instanceMethod yX9_looked ∈ xTs := x_memL xWk_16 37 rfl
theorem xw_998 : Cond.selects RX9 yX9_looked yX9_looked ∈ xTs := x_memL xWk_16 38 rfl
theorem xw_999 : Cond.code yX9_looked cX9_looked 4 (some .int) ∈ xTs := x_memL xWk_16 39 rfl
theorem xw_1000 : Cond.methodLink "IceBoatsLaw" 103 yX10_looked ∈ xTs := x_memL xWk_16 40 rfl
theorem xw_1001 : Cond.instanceMethod yX10_looked ∈ xTs := x_memL xWk_16 41 rfl
theorem xw_1002 : Cond.selects RX10 yX10_looked yX10_looked ∈ xTs := x_memL xWk_16 42 rfl
theorem xw_1003 : Cond.code yX10_looked cX10_looked 3 (some .int) ∈ xTs := x_memL xWk_16 43 rfl
theorem xw_1004 : Cond.methodLink "IceBoatsLaw" 104 yX9_match ∈ xTs := x_memL xWk_16 44 rfl
theorem xw_1005 : Cond.instanceMethod yX9_match ∈ xTs := x_memL xWk_16 45 rfl
theorem xw_1006 : Cond.selects RX9 yX9_match yX9_match ∈ xTs := x_memL xWk_16 46 rfl
theorem xw_1007 : Cond.code yX9_match cX9_match 4 (some .int) ∈ xTs := x_memL xWk_16 47 rfl
theorem xw_1008 : Cond.methodLink "IceBoatsLaw" 107 yX10_match ∈ xTs := x_memL xWk_16 48 rfl
theorem xw_1009 : Cond.instanceMethod yX10_match ∈ xTs := x_memL xWk_16 49 rfl
theorem xw_1010 : Cond.selects RX10 yX10_match yX10_match ∈ xTs := x_memL xWk_16 50 rfl
theorem xw_1011 : Cond.code yX10_match cX10_match 7 (some .int) ∈ xTs := x_memL xWk_16 51 rfl
theorem xw_1012 : Cond.methodLink "IceBoatsLaw" 108 yX9_home ∈ xTs := x_memL xWk_16 52 rfl
theorem xw_1013 : Cond.instanceMethod yX9_home ∈ xTs := x_memL xWk_16 53 rfl
theorem xw_1014 : Cond.selects RX9 yX9_home yX9_home ∈ xTs := x_memL xWk_16 54 rfl
theorem xw_1015 : Cond.code yX9_home cX9_home 3 (some .int) ∈ xTs := x_memL xWk_16 55 rfl
theorem xw_1016 : Cond.methodLink "IceBoatsLaw" 111 yX10_home ∈ xTs := x_memL xWk_16 56 rfl
theorem xw_1017 : Cond.instanceMethod yX10_home ∈ xTs := x_memL xWk_16 57 rfl
theorem xw_1018 : Cond.selects RX10 yX10_home yX10_home ∈ xTs := x_memL xWk_16 58 rfl
theorem xw_1019 : Cond.code yX10_home cX10_home 2 (some .int) ∈ xTs := x_memL xWk_16 59 rfl
def xWl_17 : List (Nat × Cond) := [(657, Cond.methodLink "IceBoatsLaw" 112 yX9_time),
  (658, Cond.instanceMethod yX9_time),
  (659, Cond.selects RX9 yX9_time yX9_time),
  (660, Cond.code yX9_time cX9_time 4 (some .int)),
  (1264, Cond.methodLink "IceBoatsLaw" 115 yX10_time),
  (1265, Cond.instanceMethod yX10_time),
  (1266, Cond.selects RX10 yX10_time yX10_time),
  (1267, Cond.code yX10_time cX10_time 3 (some .int)),
  (669, Cond.methodLink "IceBoatsLaw" 116 yX9_say),
  (670, Cond.instanceMethod yX9_say),
  (671, Cond.selects RX9 yX9_say yX9_say),
  (672, Cond.code yX9_say cX9_say 7 (some .int)),
  (1377, Cond.methodLink "IceBoatsLaw" 119 yX10_say),
  (1378, Cond.instanceMethod yX10_say),
  (1379, Cond.selects RX10 yX10_say yX10_say),
  (1380, Cond.code yX10_say cX10_say 7 (some .int)),
  (722, Cond.methodLink "IceBoatsLaw" 120 yX9_word),
  (723, Cond.instanceMethod yX9_word),
  (724, Cond.selects RX9 yX9_word yX9_word),
  (725, Cond.code yX9_word cX9_word 4 (some .int)),
  (1385, Cond.methodLink "IceBoatsLaw" 123 yX10_word),
  (1386, Cond.instanceMethod yX10_word),
  (1387, Cond.selects RX10 yX10_word yX10_word),
  (1388, Cond.code yX10_word cX10_word 3 (some .int)),
  (734, Cond.methodLink "IceBoatsLaw" 124 yX9_tells),
  (735, Cond.instanceMethod yX9_tells),
  (736, Cond.selects RX9 yX9_tells yX9_tells),
  (737, Cond.code yX9_tells cX9_tells 4 (some .int)),
  (1397, Cond.methodLink "IceBoatsLaw" 127 yX10_tells),
  (1398, Cond.instanceMethod yX10_tells),
  (1399, Cond.selects RX10 yX10_tells yX10_tells),
  (1400, Cond.code yX10_tells cX10_tells 5 (some .int)),
  (749, Cond.methodLink "IceBoatsLaw" 128 yX9_heard),
  (750, Cond.instanceMethod yX9_heard),
  (751, Cond.selects RX9 yX9_heard yX9_heard),
  (752, Cond.code yX9_heard cX9_heard 4 (some .int)),
  (1401, Cond.methodLink "IceBoatsLaw" 131 yX10_heard),
  (1402, Cond.instanceMethod yX10_heard),
  (1403, Cond.selects RX10 yX10_heard yX10_heard),
  (1404, Cond.code yX10_heard cX10_heard 3 (some .int)),
  (753, Cond.methodLink "IceBoatsLaw" 132 yX9_knows),
  (754, Cond.instanceMethod yX9_knows),
  (755, Cond.selects RX9 yX9_knows yX9_knows),
  (756, Cond.code yX9_knows cX9_knows 6 (some .int)),
  (1405, Cond.methodLink "IceBoatsLaw" 135 yX10_knows),
  (1406, Cond.instanceMethod yX10_knows),
  (1407, Cond.selects RX10 yX10_knows yX10_knows),
  (1408, Cond.code yX10_knows cX10_knows 5 (some .int)),
  (776, Cond.methodLink "IceBoatsLaw" 136 yX9_allKnow),
  (777, Cond.instanceMethod yX9_allKnow),
  (778, Cond.selects RX9 yX9_allKnow yX9_allKnow),
  (779, Cond.code yX9_allKnow cX9_allKnow 8 (some .int)),
  (1421, Cond.methodLink "IceBoatsLaw" 139 yX10_allKnow),
  (1422, Cond.instanceMethod yX10_allKnow),
  (1423, Cond.selects RX10 yX10_allKnow yX10_allKnow),
  (1424, Cond.code yX10_allKnow cX10_allKnow 12 (some .int)),
  (787, Cond.methodLink "IceBoatsLaw" 140 yX9_fault),
  (788, Cond.instanceMethod yX9_fault),
  (789, Cond.selects RX9 yX9_fault yX9_fault),
  (790, Cond.code yX9_fault cX9_fault 3 (some .int))]
theorem xWk_17 : xWl_17.all (fun q => decide (lw_tbl[q.1]? = some q.2) && goodWord q.2) = true := by decide +kernel
theorem xw_1020 : Cond.methodLink "IceBoatsLaw" 112 yX9_time ∈ xTs := x_memL xWk_17 0 rfl
theorem xw_1021 : Cond.instanceMethod yX9_time ∈ xTs := x_memL xWk_17 1 rfl
theorem xw_1022 : Cond.selects RX9 yX9_time yX9_time ∈ xTs := x_memL xWk_17 2 rfl
theorem xw_1023 : Cond.code yX9_time cX9_time 4 (some .int) ∈ xTs := x_memL xWk_17 3 rfl
theorem xw_1024 : Cond.methodLink "IceBoatsLaw" 115 yX10_time ∈ xTs := x_memL xWk_17 4 rfl
theorem xw_1025 : Cond.instanceMethod yX10_time ∈ xTs := x_memL xWk_17 5 rfl
theorem xw_1026 : Cond.selects RX10 yX10_time yX10_time ∈ xTs := x_memL xWk_17 6 rfl
theorem xw_1027 : Cond.code yX10_time cX10_time 3 (some .int) ∈ xTs := x_memL xWk_17 7 rfl
theorem xw_1028 : Cond.methodLink "IceBoatsLaw" 116 yX9_say ∈ xTs := x_memL xWk_17 8 rfl
theorem xw_1029 : Cond.instanceMethod yX9_say ∈ xTs := x_memL xWk_17 9 rfl
theorem xw_1030 : Cond.selects RX9 yX9_say yX9_say ∈ xTs := x_memL xWk_17 10 rfl
theorem xw_1031 : Cond.code yX9_say cX9_say 7 (some .int) ∈ xTs := x_memL xWk_17 11 rfl
theorem xw_1032 : Cond.methodLink "IceBoatsLaw" 119 yX10_say ∈ xTs := x_memL xWk_17 12 rfl
theorem xw_1033 : Cond.instanceMethod yX10_say ∈ xTs := x_memL xWk_17 13 rfl
theorem xw_1034 : Cond.selects RX10 yX10_say yX10_say ∈ xTs := x_memL xWk_17 14 rfl
theorem xw_1035 : Cond.code yX10_say cX10_say 7 (some .int) ∈ xTs := x_memL xWk_17 15 rfl
theorem xw_1036 : Cond.methodLink "IceBoatsLaw" 120 yX9_word ∈ xTs := x_memL xWk_17 16 rfl
theorem xw_1037 : Cond.instanceMethod yX9_word ∈ xTs := x_memL xWk_17 17 rfl
theorem xw_1038 : Cond.selects RX9 yX9_word yX9_word ∈ xTs := x_memL xWk_17 18 rfl
theorem xw_1039 : Cond.code yX9_word cX9_word 4 (some .int) ∈ xTs := x_memL xWk_17 19 rfl
theorem xw_1040 : Cond.methodLink "IceBoatsLaw" 123 yX10_word ∈ xTs := x_memL xWk_17 20 rfl
theorem xw_1041 : Cond.instanceMethod yX10_word ∈ xTs := x_memL xWk_17 21 rfl
theorem xw_1042 : Cond.selects RX10 yX10_word yX10_word ∈ xTs := x_memL xWk_17 22 rfl
theorem xw_1043 : Cond.code yX10_word cX10_word 3 (some .int) ∈ xTs := x_memL xWk_17 23 rfl
theorem xw_1044 : Cond.methodLink "IceBoatsLaw" 124 yX9_tells ∈ xTs := x_memL xWk_17 24 rfl
theorem xw_1045 : Cond.instanceMethod yX9_tells ∈ xTs := x_memL xWk_17 25 rfl
theorem xw_1046 : Cond.selects RX9 yX9_tells yX9_tells ∈ xTs := x_memL xWk_17 26 rfl
theorem xw_1047 : Cond.code yX9_tells cX9_tells 4 (some .int) ∈ xTs := x_memL xWk_17 27 rfl
theorem xw_1048 : Cond.methodLink "IceBoatsLaw" 127 yX10_tells ∈ xTs := x_memL xWk_17 28 rfl
theorem xw_1049 : Cond.instanceMethod yX10_tells ∈ xTs := x_memL xWk_17 29 rfl
theorem xw_1050 : Cond.selects RX10 yX10_tells yX10_tells ∈ xTs := x_memL xWk_17 30 rfl
theorem xw_1051 : Cond.code yX10_tells cX10_tells 5 (some .int) ∈ xTs := x_memL xWk_17 31 rfl
theorem xw_1052 : Cond.methodLink "IceBoatsLaw" 128 yX9_heard ∈ xTs := x_memL xWk_17 32 rfl
theorem xw_1053 : Cond.instanceMethod yX9_heard ∈ xTs := x_memL xWk_17 33 rfl
theorem xw_1054 : Cond.selects RX9 yX9_heard yX9_heard ∈ xTs := x_memL xWk_17 34 rfl
theorem xw_1055 : Cond.code yX9_heard cX9_heard 4 (some .int) ∈ xTs := x_memL xWk_17 35 rfl
theorem xw_1056 : Cond.methodLink "IceBoatsLaw" 131 yX10_heard ∈ xTs := x_memL xWk_17 36 rfl
theorem xw_1057 : Cond.instanceMethod yX10_heard ∈ xTs := x_memL xWk_17 37 rfl
theorem xw_1058 : Cond.selects RX10 yX10_heard yX10_heard ∈ xTs := x_memL xWk_17 38 rfl
theorem xw_1059 : Cond.code yX10_heard cX10_heard 3 (some .int) ∈ xTs := x_memL xWk_17 39 rfl
theorem xw_1060 : Cond.methodLink "IceBoatsLaw" 132 yX9_knows ∈ xTs := x_memL xWk_17 40 rfl
theorem xw_1061 : Cond.instanceMethod yX9_knows ∈ xTs := x_memL xWk_17 41 rfl
theorem xw_1062 : Cond.selects RX9 yX9_knows yX9_knows ∈ xTs := x_memL xWk_17 42 rfl
theorem xw_1063 : Cond.code yX9_knows cX9_knows 6 (some .int) ∈ xTs := x_memL xWk_17 43 rfl
theorem xw_1064 : Cond.methodLink "IceBoatsLaw" 135 yX10_knows ∈ xTs := x_memL xWk_17 44 rfl
theorem xw_1065 : Cond.instanceMethod yX10_knows ∈ xTs := x_memL xWk_17 45 rfl
theorem xw_1066 : Cond.selects RX10 yX10_knows yX10_knows ∈ xTs := x_memL xWk_17 46 rfl
theorem xw_1067 : Cond.code yX10_knows cX10_knows 5 (some .int) ∈ xTs := x_memL xWk_17 47 rfl
theorem xw_1068 : Cond.methodLink "IceBoatsLaw" 136 yX9_allKnow ∈ xTs := x_memL xWk_17 48 rfl
theorem xw_1069 : Cond.instanceMethod yX9_allKnow ∈ xTs := x_memL xWk_17 49 rfl
theorem xw_1070 : Cond.selects RX9 yX9_allKnow yX9_allKnow ∈ xTs := x_memL xWk_17 50 rfl
theorem xw_1071 : Cond.code yX9_allKnow cX9_allKnow 8 (some .int) ∈ xTs := x_memL xWk_17 51 rfl
theorem xw_1072 : Cond.methodLink "IceBoatsLaw" 139 yX10_allKnow ∈ xTs := x_memL xWk_17 52 rfl
theorem xw_1073 : Cond.instanceMethod yX10_allKnow ∈ xTs := x_memL xWk_17 53 rfl
theorem xw_1074 : Cond.selects RX10 yX10_allKnow yX10_allKnow ∈ xTs := x_memL xWk_17 54 rfl
theorem xw_1075 : Cond.code yX10_allKnow cX10_allKnow 12 (some .int) ∈ xTs := x_memL xWk_17 55 rfl
theorem xw_1076 : Cond.methodLink "IceBoatsLaw" 140 yX9_fault ∈ xTs := x_memL xWk_17 56 rfl
theorem xw_1077 : Cond.instanceMethod yX9_fault ∈ xTs := x_memL xWk_17 57 rfl
theorem xw_1078 : Cond.selects RX9 yX9_fault yX9_fault ∈ xTs := x_memL xWk_17 58 rfl
theorem xw_1079 : Cond.code yX9_fault cX9_fault 3 (some .int) ∈ xTs := x_memL xWk_17 59 rfl
def xWl_18 : List (Nat × Cond) := [(1425, Cond.methodLink "IceBoatsLaw" 143 yX10_fault),
  (1426, Cond.instanceMethod yX10_fault),
  (1427, Cond.selects RX10 yX10_fault yX10_fault),
  (1428, Cond.code yX10_fault cX10_fault 3 (some .int)),
  (806, Cond.methodLink "IceBoatsLaw" 144 yX9_rules),
  (807, Cond.instanceMethod yX9_rules),
  (808, Cond.selects RX9 yX9_rules yX9_rules),
  (809, Cond.code yX9_rules cX9_rules 7 (some .int)),
  (1436, Cond.methodLink "IceBoatsLaw" 147 yX10_rules),
  (1437, Cond.instanceMethod yX10_rules),
  (1438, Cond.selects RX10 yX10_rules yX10_rules),
  (1439, Cond.code yX10_rules cX10_rules 5 (some .int)),
  (810, Cond.methodLink "IceBoatsLaw" 148 yX9_rule),
  (811, Cond.instanceMethod yX9_rule),
  (812, Cond.selects RX9 yX9_rule yX9_rule),
  (813, Cond.code yX9_rule cX9_rule 4 (some .int)),
  (1440, Cond.methodLink "IceBoatsLaw" 151 yX10_rule),
  (1441, Cond.instanceMethod yX10_rule),
  (1442, Cond.selects RX10 yX10_rule yX10_rule),
  (1443, Cond.code yX10_rule cX10_rule 3 (some .int)),
  (814, Cond.methodLink "IceBoatsLaw" 152 yX9_asks),
  (815, Cond.instanceMethod yX9_asks),
  (816, Cond.selects RX9 yX9_asks yX9_asks),
  (817, Cond.code yX9_asks cX9_asks 5 (some .int)),
  (1444, Cond.methodLink "IceBoatsLaw" 155 yX10_asks),
  (1445, Cond.instanceMethod yX10_asks),
  (1446, Cond.selects RX10 yX10_asks yX10_asks),
  (1447, Cond.code yX10_asks cX10_asks 5 (some .int)),
  (822, Cond.methodLink "IceBoatsLaw" 156 yX9_shifts),
  (823, Cond.instanceMethod yX9_shifts),
  (824, Cond.selects RX9 yX9_shifts yX9_shifts),
  (825, Cond.code yX9_shifts cX9_shifts 10 (some .int)),
  (1448, Cond.methodLink "IceBoatsLaw" 159 yX10_shifts),
  (1449, Cond.instanceMethod yX10_shifts),
  (1450, Cond.selects RX10 yX10_shifts yX10_shifts),
  (1451, Cond.code yX10_shifts cX10_shifts 9 (some .int)),
  (832, Cond.methodLink "IceBoatsLaw" 160 yX9_mapped),
  (833, Cond.instanceMethod yX9_mapped),
  (834, Cond.selects RX9 yX9_mapped yX9_mapped),
  (835, Cond.code yX9_mapped cX9_mapped 5 (some .int)),
  (1460, Cond.methodLink "IceBoatsLaw" 163 yX10_mapped),
  (1461, Cond.instanceMethod yX10_mapped),
  (1462, Cond.selects RX10 yX10_mapped yX10_mapped),
  (1463, Cond.code yX10_mapped cX10_mapped 3 (some .int)),
  (836, Cond.methodLink "IceBoatsLaw" 164 yX9_plan),
  (837, Cond.instanceMethod yX9_plan),
  (838, Cond.selects RX9 yX9_plan yX9_plan),
  (839, Cond.code yX9_plan cX9_plan 6 (some .int)),
  (1464, Cond.methodLink "IceBoatsLaw" 167 yX10_plan),
  (1465, Cond.instanceMethod yX10_plan),
  (1466, Cond.selects RX10 yX10_plan yX10_plan),
  (1467, Cond.code yX10_plan cX10_plan 12 (some .int)),
  (884, Cond.methodLink "IceBoatsLaw" 168 yX9_odds),
  (885, Cond.instanceMethod yX9_odds),
  (886, Cond.selects RX9 yX9_odds yX9_odds),
  (887, Cond.code yX9_odds cX9_odds 8 (some .int)),
  (1476, Cond.methodLink "IceBoatsLaw" 171 yX10_odds),
  (1477, Cond.instanceMethod yX10_odds),
  (1478, Cond.selects RX10 yX10_odds yX10_odds),
  (1479, Cond.code yX10_odds cX10_odds 9 (some .int))]
theorem xWk_18 : xWl_18.all (fun q => decide (lw_tbl[q.1]? = some q.2) && goodWord q.2) = true := by decide +kernel
theorem xw_1080 : Cond.methodLink "IceBoatsLaw" 143 yX10_fault ∈ xTs := x_memL xWk_18 0 rfl
theorem xw_1081 : Cond.instanceMethod yX10_fault ∈ xTs := x_memL xWk_18 1 rfl
theorem xw_1082 : Cond.selects RX10 yX10_fault yX10_fault ∈ xTs := x_memL xWk_18 2 rfl
theorem xw_1083 : Cond.code yX10_fault cX10_fault 3 (some .int) ∈ xTs := x_memL xWk_18 3 rfl
theorem xw_1084 : Cond.methodLink "IceBoatsLaw" 144 yX9_rules ∈ xTs := x_memL xWk_18 4 rfl
theorem xw_1085 : Cond.instanceMethod yX9_rules ∈ xTs := x_memL xWk_18 5 rfl
theorem xw_1086 : Cond.selects RX9 yX9_rules yX9_rules ∈ xTs := x_memL xWk_18 6 rfl
theorem xw_1087 : Cond.code yX9_rules cX9_rules 7 (some .int) ∈ xTs := x_memL xWk_18 7 rfl
theorem xw_1088 : Cond.methodLink "IceBoatsLaw" 147 yX10_rules ∈ xTs := x_memL xWk_18 8 rfl
theorem xw_1089 : Cond.instanceMethod yX10_rules ∈ xTs := x_memL xWk_18 9 rfl
theorem xw_1090 : Cond.selects RX10 yX10_rules yX10_rules ∈ xTs := x_memL xWk_18 10 rfl
theorem xw_1091 : Cond.code yX10_rules cX10_rules 5 (some .int) ∈ xTs := x_memL xWk_18 11 rfl
theorem xw_1092 : Cond.methodLink "IceBoatsLaw" 148 yX9_rule ∈ xTs := x_memL xWk_18 12 rfl
theorem xw_1093 : Cond.instanceMethod yX9_rule ∈ xTs := x_memL xWk_18 13 rfl
theorem xw_1094 : Cond.selects RX9 yX9_rule yX9_rule ∈ xTs := x_memL xWk_18 14 rfl
theorem xw_1095 : Cond.code yX9_rule cX9_rule 4 (some .int) ∈ xTs := x_memL xWk_18 15 rfl
theorem xw_1096 : Cond.methodLink "IceBoatsLaw" 151 yX10_rule ∈ xTs := x_memL xWk_18 16 rfl
theorem xw_1097 : Cond.instanceMethod yX10_rule ∈ xTs := x_memL xWk_18 17 rfl
theorem xw_1098 : Cond.selects RX10 yX10_rule yX10_rule ∈ xTs := x_memL xWk_18 18 rfl
theorem xw_1099 : Cond.code yX10_rule cX10_rule 3 (some .int) ∈ xTs := x_memL xWk_18 19 rfl
theorem xw_1100 : Cond.methodLink "IceBoatsLaw" 152 yX9_asks ∈ xTs := x_memL xWk_18 20 rfl
theorem xw_1101 : Cond.instanceMethod yX9_asks ∈ xTs := x_memL xWk_18 21 rfl
theorem xw_1102 : Cond.selects RX9 yX9_asks yX9_asks ∈ xTs := x_memL xWk_18 22 rfl
theorem xw_1103 : Cond.code yX9_asks cX9_asks 5 (some .int) ∈ xTs := x_memL xWk_18 23 rfl
theorem xw_1104 : Cond.methodLink "IceBoatsLaw" 155 yX10_asks ∈ xTs := x_memL xWk_18 24 rfl
theorem xw_1105 : Cond.instanceMethod yX10_asks ∈ xTs := x_memL xWk_18 25 rfl
theorem xw_1106 : Cond.selects RX10 yX10_asks yX10_asks ∈ xTs := x_memL xWk_18 26 rfl
theorem xw_1107 : Cond.code yX10_asks cX10_asks 5 (some .int) ∈ xTs := x_memL xWk_18 27 rfl
theorem xw_1108 : Cond.methodLink "IceBoatsLaw" 156 yX9_shifts ∈ xTs := x_memL xWk_18 28 rfl
theorem xw_1109 : Cond.instanceMethod yX9_shifts ∈ xTs := x_memL xWk_18 29 rfl
theorem xw_1110 : Cond.selects RX9 yX9_shifts yX9_shifts ∈ xTs := x_memL xWk_18 30 rfl
theorem xw_1111 : Cond.code yX9_shifts cX9_shifts 10 (some .int) ∈ xTs := x_memL xWk_18 31 rfl
theorem xw_1112 : Cond.methodLink "IceBoatsLaw" 159 yX10_shifts ∈ xTs := x_memL xWk_18 32 rfl
theorem xw_1113 : Cond.instanceMethod yX10_shifts ∈ xTs := x_memL xWk_18 33 rfl
theorem xw_1114 : Cond.selects RX10 yX10_shifts yX10_shifts ∈ xTs := x_memL xWk_18 34 rfl
theorem xw_1115 : Cond.code yX10_shifts cX10_shifts 9 (some .int) ∈ xTs := x_memL xWk_18 35 rfl
theorem xw_1116 : Cond.methodLink "IceBoatsLaw" 160 yX9_mapped ∈ xTs := x_memL xWk_18 36 rfl
theorem xw_1117 : Cond.instanceMethod yX9_mapped ∈ xTs := x_memL xWk_18 37 rfl
theorem xw_1118 : Cond.selects RX9 yX9_mapped yX9_mapped ∈ xTs := x_memL xWk_18 38 rfl
theorem xw_1119 : Cond.code yX9_mapped cX9_mapped 5 (some .int) ∈ xTs := x_memL xWk_18 39 rfl
theorem xw_1120 : Cond.methodLink "IceBoatsLaw" 163 yX10_mapped ∈ xTs := x_memL xWk_18 40 rfl
theorem xw_1121 : Cond.instanceMethod yX10_mapped ∈ xTs := x_memL xWk_18 41 rfl
theorem xw_1122 : Cond.selects RX10 yX10_mapped yX10_mapped ∈ xTs := x_memL xWk_18 42 rfl
theorem xw_1123 : Cond.code yX10_mapped cX10_mapped 3 (some .int) ∈ xTs := x_memL xWk_18 43 rfl
theorem xw_1124 : Cond.methodLink "IceBoatsLaw" 164 yX9_plan ∈ xTs := x_memL xWk_18 44 rfl
theorem xw_1125 : Cond.instanceMethod yX9_plan ∈ xTs := x_memL xWk_18 45 rfl
theorem xw_1126 : Cond.selects RX9 yX9_plan yX9_plan ∈ xTs := x_memL xWk_18 46 rfl
theorem xw_1127 : Cond.code yX9_plan cX9_plan 6 (some .int) ∈ xTs := x_memL xWk_18 47 rfl
theorem xw_1128 : Cond.methodLink "IceBoatsLaw" 167 yX10_plan ∈ xTs := x_memL xWk_18 48 rfl
theorem xw_1129 : Cond.instanceMethod yX10_plan ∈ xTs := x_memL xWk_18 49 rfl
theorem xw_1130 : Cond.selects RX10 yX10_plan yX10_plan ∈ xTs := x_memL xWk_18 50 rfl
theorem xw_1131 : Cond.code yX10_plan cX10_plan 12 (some .int) ∈ xTs := x_memL xWk_18 51 rfl
theorem xw_1132 : Cond.methodLink "IceBoatsLaw" 168 yX9_odds ∈ xTs := x_memL xWk_18 52 rfl
theorem xw_1133 : Cond.instanceMethod yX9_odds ∈ xTs := x_memL xWk_18 53 rfl
theorem xw_1134 : Cond.selects RX9 yX9_odds yX9_odds ∈ xTs := x_memL xWk_18 54 rfl
theorem xw_1135 : Cond.code yX9_odds cX9_odds 8 (some .int) ∈ xTs := x_memL xWk_18 55 rfl
theorem xw_1136 : Cond.methodLink "IceBoatsLaw" 171 yX10_odds ∈ xTs := x_memL xWk_18 56 rfl
theorem xw_1137 : Cond.instanceMethod yX10_odds ∈ xTs := x_memL xWk_18 57 rfl
theorem xw_1138 : Cond.selects RX10 yX10_odds yX10_odds ∈ xTs := x_memL xWk_18 58 rfl
theorem xw_1139 : Cond.code yX10_odds cX10_odds 9 (some .int) ∈ xTs := x_memL xWk_18 59 rfl
def xWl_19 : List (Nat × Cond) := [(919, Cond.methodLink "IceBoatsLaw" 172 yX9_courses),
  (920, Cond.instanceMethod yX9_courses),
  (921, Cond.selects RX9 yX9_courses yX9_courses),
  (922, Cond.code yX9_courses cX9_courses 8 (some .int)),
  (1490, Cond.methodLink "IceBoatsLaw" 175 yX10_courses),
  (1491, Cond.instanceMethod yX10_courses),
  (1492, Cond.selects RX10 yX10_courses yX10_courses),
  (1493, Cond.code yX10_courses cX10_courses 9 (some .int)),
  (945, Cond.methodLink "IceBoatsLaw" 176 yX9_asked),
  (946, Cond.instanceMethod yX9_asked),
  (947, Cond.selects RX9 yX9_asked yX9_asked),
  (948, Cond.code yX9_asked cX9_asked 1 (some .int)),
  (1498, Cond.methodLink "IceBoatsLaw" 179 yX10_asked),
  (1499, Cond.instanceMethod yX10_asked),
  (1500, Cond.selects RX10 yX10_asked yX10_asked),
  (1501, Cond.code yX10_asked cX10_asked 1 (some .int)),
  (949, Cond.methodLink "IceBoatsLaw" 180 yX9_set),
  (950, Cond.instanceMethod yX9_set),
  (951, Cond.selects RX9 yX9_set yX9_set),
  (952, Cond.code yX9_set cX9_set 1 (some .long)),
  (1502, Cond.methodLink "IceBoatsLaw" 184 yX10_set),
  (1503, Cond.instanceMethod yX10_set),
  (1504, Cond.selects RX10 yX10_set yX10_set),
  (1505, Cond.code yX10_set cX10_set 1 (some .long)),
  (953, Cond.methodLink "IceBoatsLaw" 185 yX9_upper),
  (954, Cond.instanceMethod yX9_upper),
  (955, Cond.selects RX9 yX9_upper yX9_upper),
  (956, Cond.code yX9_upper cX9_upper 1 (some .long)),
  (1506, Cond.methodLink "IceBoatsLaw" 188 yX10_upper),
  (1507, Cond.instanceMethod yX10_upper),
  (1508, Cond.selects RX10 yX10_upper yX10_upper),
  (1509, Cond.code yX10_upper cX10_upper 1 (some .long)),
  (957, Cond.methodLink "IceBoatsLaw" 189 yX9_lower),
  (958, Cond.instanceMethod yX9_lower),
  (959, Cond.selects RX9 yX9_lower yX9_lower),
  (960, Cond.code yX9_lower cX9_lower 1 (some .long)),
  (1510, Cond.methodLink "IceBoatsLaw" 192 yX10_lower),
  (1511, Cond.instanceMethod yX10_lower),
  (1512, Cond.selects RX10 yX10_lower yX10_lower),
  (1513, Cond.code yX10_lower cX10_lower 1 (some .long)),
  (961, Cond.methodLink "IceBoatsLaw" 193 yX9_count),
  (1514, Cond.methodLink "IceBoatsLaw" 196 yX10_count),
  (1515, Cond.instanceMethod yX10_count),
  (1516, Cond.selects RX10 yX10_count yX10_count),
  (1517, Cond.code yX10_count cX10_count 2 (some .int)),
  (976, Cond.methodLink "IceBoatsLaw" 197 yX9_finding),
  (977, Cond.instanceMethod yX9_finding),
  (978, Cond.selects RX9 yX9_finding yX9_finding),
  (979, Cond.code yX9_finding cX9_finding 1 (some .int)),
  (1522, Cond.methodLink "IceBoatsLaw" 200 yX10_finding),
  (1523, Cond.instanceMethod yX10_finding),
  (1524, Cond.selects RX10 yX10_finding yX10_finding),
  (1525, Cond.code yX10_finding cX10_finding 1 (some .int)),
  (980, Cond.methodLink "IceBoatsLaw" 201 yX9_findings),
  (981, Cond.instanceMethod yX9_findings),
  (982, Cond.selects RX9 yX9_findings yX9_findings),
  (983, Cond.code yX9_findings cX9_findings 2 (some .int)),
  (1526, Cond.methodLink "IceBoatsLaw" 204 yX10_findings),
  (1527, Cond.instanceMethod yX10_findings),
  (1528, Cond.selects RX10 yX10_findings yX10_findings)]
theorem xWk_19 : xWl_19.all (fun q => decide (lw_tbl[q.1]? = some q.2) && goodWord q.2) = true := by decide +kernel
theorem xw_1140 : Cond.methodLink "IceBoatsLaw" 172 yX9_courses ∈ xTs := x_memL xWk_19 0 rfl
theorem xw_1141 : Cond.instanceMethod yX9_courses ∈ xTs := x_memL xWk_19 1 rfl
theorem xw_1142 : Cond.selects RX9 yX9_courses yX9_courses ∈ xTs := x_memL xWk_19 2 rfl
theorem xw_1143 : Cond.code yX9_courses cX9_courses 8 (some .int) ∈ xTs := x_memL xWk_19 3 rfl
theorem xw_1144 : Cond.methodLink "IceBoatsLaw" 175 yX10_courses ∈ xTs := x_memL xWk_19 4 rfl
theorem xw_1145 : Cond.instanceMethod yX10_courses ∈ xTs := x_memL xWk_19 5 rfl
theorem xw_1146 : Cond.selects RX10 yX10_courses yX10_courses ∈ xTs := x_memL xWk_19 6 rfl
theorem xw_1147 : Cond.code yX10_courses cX10_courses 9 (some .int) ∈ xTs := x_memL xWk_19 7 rfl
theorem xw_1148 : Cond.methodLink "IceBoatsLaw" 176 yX9_asked ∈ xTs := x_memL xWk_19 8 rfl
theorem xw_1149 : Cond.instanceMethod yX9_asked ∈ xTs := x_memL xWk_19 9 rfl
theorem xw_1150 : Cond.selects RX9 yX9_asked yX9_asked ∈ xTs := x_memL xWk_19 10 rfl
theorem xw_1151 : Cond.code yX9_asked cX9_asked 1 (some .int) ∈ xTs := x_memL xWk_19 11 rfl
theorem xw_1152 : Cond.methodLink "IceBoatsLaw" 179 yX10_asked ∈ xTs := x_memL xWk_19 12 rfl
theorem xw_1153 : Cond.instanceMethod yX10_asked ∈ xTs := x_memL xWk_19 13 rfl
theorem xw_1154 : Cond.selects RX10 yX10_asked yX10_asked ∈ xTs := x_memL xWk_19 14 rfl
theorem xw_1155 : Cond.code yX10_asked cX10_asked 1 (some .int) ∈ xTs := x_memL xWk_19 15 rfl
theorem xw_1156 : Cond.methodLink "IceBoatsLaw" 180 yX9_set ∈ xTs := x_memL xWk_19 16 rfl
theorem xw_1157 : Cond.instanceMethod yX9_set ∈ xTs := x_memL xWk_19 17 rfl
theorem xw_1158 : Cond.selects RX9 yX9_set yX9_set ∈ xTs := x_memL xWk_19 18 rfl
theorem xw_1159 : Cond.code yX9_set cX9_set 1 (some .long) ∈ xTs := x_memL xWk_19 19 rfl
theorem xw_1160 : Cond.methodLink "IceBoatsLaw" 184 yX10_set ∈ xTs := x_memL xWk_19 20 rfl
theorem xw_1161 : Cond.instanceMethod yX10_set ∈ xTs := x_memL xWk_19 21 rfl
theorem xw_1162 : Cond.selects RX10 yX10_set yX10_set ∈ xTs := x_memL xWk_19 22 rfl
theorem xw_1163 : Cond.code yX10_set cX10_set 1 (some .long) ∈ xTs := x_memL xWk_19 23 rfl
theorem xw_1164 : Cond.methodLink "IceBoatsLaw" 185 yX9_upper ∈ xTs := x_memL xWk_19 24 rfl
theorem xw_1165 : Cond.instanceMethod yX9_upper ∈ xTs := x_memL xWk_19 25 rfl
theorem xw_1166 : Cond.selects RX9 yX9_upper yX9_upper ∈ xTs := x_memL xWk_19 26 rfl
theorem xw_1167 : Cond.code yX9_upper cX9_upper 1 (some .long) ∈ xTs := x_memL xWk_19 27 rfl
theorem xw_1168 : Cond.methodLink "IceBoatsLaw" 188 yX10_upper ∈ xTs := x_memL xWk_19 28 rfl
theorem xw_1169 : Cond.instanceMethod yX10_upper ∈ xTs := x_memL xWk_19 29 rfl
theorem xw_1170 : Cond.selects RX10 yX10_upper yX10_upper ∈ xTs := x_memL xWk_19 30 rfl
theorem xw_1171 : Cond.code yX10_upper cX10_upper 1 (some .long) ∈ xTs := x_memL xWk_19 31 rfl
theorem xw_1172 : Cond.methodLink "IceBoatsLaw" 189 yX9_lower ∈ xTs := x_memL xWk_19 32 rfl
theorem xw_1173 : Cond.instanceMethod yX9_lower ∈ xTs := x_memL xWk_19 33 rfl
theorem xw_1174 : Cond.selects RX9 yX9_lower yX9_lower ∈ xTs := x_memL xWk_19 34 rfl
theorem xw_1175 : Cond.code yX9_lower cX9_lower 1 (some .long) ∈ xTs := x_memL xWk_19 35 rfl
theorem xw_1176 : Cond.methodLink "IceBoatsLaw" 192 yX10_lower ∈ xTs := x_memL xWk_19 36 rfl
theorem xw_1177 : Cond.instanceMethod yX10_lower ∈ xTs := x_memL xWk_19 37 rfl
theorem xw_1178 : Cond.selects RX10 yX10_lower yX10_lower ∈ xTs := x_memL xWk_19 38 rfl
theorem xw_1179 : Cond.code yX10_lower cX10_lower 1 (some .long) ∈ xTs := x_memL xWk_19 39 rfl
theorem xw_1180 : Cond.methodLink "IceBoatsLaw" 193 yX9_count ∈ xTs := x_memL xWk_19 40 rfl
theorem xw_1181 : Cond.methodLink "IceBoatsLaw" 196 yX10_count ∈ xTs := x_memL xWk_19 41 rfl
theorem xw_1182 : Cond.instanceMethod yX10_count ∈ xTs := x_memL xWk_19 42 rfl
theorem xw_1183 : Cond.selects RX10 yX10_count yX10_count ∈ xTs := x_memL xWk_19 43 rfl
theorem xw_1184 : Cond.code yX10_count cX10_count 2 (some .int) ∈ xTs := x_memL xWk_19 44 rfl
theorem xw_1185 : Cond.methodLink "IceBoatsLaw" 197 yX9_finding ∈ xTs := x_memL xWk_19 45 rfl
theorem xw_1186 : Cond.instanceMethod yX9_finding ∈ xTs := x_memL xWk_19 46 rfl
theorem xw_1187 : Cond.selects RX9 yX9_finding yX9_finding ∈ xTs := x_memL xWk_19 47 rfl
theorem xw_1188 : Cond.code yX9_finding cX9_finding 1 (some .int) ∈ xTs := x_memL xWk_19 48 rfl
theorem xw_1189 : Cond.methodLink "IceBoatsLaw" 200 yX10_finding ∈ xTs := x_memL xWk_19 49 rfl
theorem xw_1190 : Cond.instanceMethod yX10_finding ∈ xTs := x_memL xWk_19 50 rfl
theorem xw_1191 : Cond.selects RX10 yX10_finding yX10_finding ∈ xTs := x_memL xWk_19 51 rfl
theorem xw_1192 : Cond.code yX10_finding cX10_finding 1 (some .int) ∈ xTs := x_memL xWk_19 52 rfl
theorem xw_1193 : Cond.methodLink "IceBoatsLaw" 201 yX9_findings ∈ xTs := x_memL xWk_19 53 rfl
theorem xw_1194 : Cond.instanceMethod yX9_findings ∈ xTs := x_memL xWk_19 54 rfl
theorem xw_1195 : Cond.selects RX9 yX9_findings yX9_findings ∈ xTs := x_memL xWk_19 55 rfl
theorem xw_1196 : Cond.code yX9_findings cX9_findings 2 (some .int) ∈ xTs := x_memL xWk_19 56 rfl
theorem xw_1197 : Cond.methodLink "IceBoatsLaw" 204 yX10_findings ∈ xTs := x_memL xWk_19 57 rfl
theorem xw_1198 : Cond.instanceMethod yX10_findings ∈ xTs := x_memL xWk_19 58 rfl
theorem xw_1199 : Cond.selects RX10 yX10_findings yX10_findings ∈ xTs := x_memL xWk_19 59 rfl
def xWl_20 : List (Nat × Cond) := [(1529, Cond.code yX10_findings cX10_findings 2 (some .int)),
  (984, Cond.methodLink "IceBoatsLaw" 205 yX9_digest),
  (985, Cond.instanceMethod yX9_digest),
  (986, Cond.selects RX9 yX9_digest yX9_digest),
  (987, Cond.code yX9_digest cX9_digest 5 (some .long)),
  (1530, Cond.methodLink "IceBoatsLaw" 208 yX10_digest),
  (1531, Cond.instanceMethod yX10_digest),
  (1532, Cond.selects RX10 yX10_digest yX10_digest),
  (1533, Cond.code yX10_digest cX10_digest 3 (some .long)),
  (121, Cond.arrayClass .int),
  (122, Cond.arrayClass .long),
  (192, Cond.arrayClass .boolean),
  (97, Cond.instanceMethod Lib.objectInit),
  (98, Cond.code Lib.objectInit ⟨#[0xb1]⟩ 1 none)]
theorem xWk_20 : xWl_20.all (fun q => decide (lw_tbl[q.1]? = some q.2) && goodWord q.2) = true := by decide +kernel
theorem xw_1200 : Cond.code yX10_findings cX10_findings 2 (some .int) ∈ xTs := x_memL xWk_20 0 rfl
theorem xw_1201 : Cond.methodLink "IceBoatsLaw" 205 yX9_digest ∈ xTs := x_memL xWk_20 1 rfl
theorem xw_1202 : Cond.instanceMethod yX9_digest ∈ xTs := x_memL xWk_20 2 rfl
theorem xw_1203 : Cond.selects RX9 yX9_digest yX9_digest ∈ xTs := x_memL xWk_20 3 rfl
theorem xw_1204 : Cond.code yX9_digest cX9_digest 5 (some .long) ∈ xTs := x_memL xWk_20 4 rfl
theorem xw_1205 : Cond.methodLink "IceBoatsLaw" 208 yX10_digest ∈ xTs := x_memL xWk_20 5 rfl
theorem xw_1206 : Cond.instanceMethod yX10_digest ∈ xTs := x_memL xWk_20 6 rfl
theorem xw_1207 : Cond.selects RX10 yX10_digest yX10_digest ∈ xTs := x_memL xWk_20 7 rfl
theorem xw_1208 : Cond.code yX10_digest cX10_digest 3 (some .long) ∈ xTs := x_memL xWk_20 8 rfl
theorem xw_1209 : Cond.arrayClass .int ∈ xTs := x_memL xWk_20 9 rfl
theorem xw_1210 : Cond.arrayClass .long ∈ xTs := x_memL xWk_20 10 rfl
theorem xw_1211 : Cond.arrayClass .boolean ∈ xTs := x_memL xWk_20 11 rfl
theorem xw_1212 : Cond.instanceMethod Lib.objectInit ∈ xTs := x_memL xWk_20 12 rfl
theorem xw_1213 : Cond.code Lib.objectInit ⟨#[0xb1]⟩ 1 none ∈ xTs := x_memL xWk_20 13 rfl
theorem x_all {ws : List Cond} (h : ws.all (fun w => decide (w ∈ lw_tbl) && goodWord w) = true) : ∀ w ∈ ws, w ∈ xTs := fun w hw => by
  have h1 := List.all_eq_true.mp h w hw
  rw [Bool.and_eq_true] at h1
  exact List.mem_filter.mpr ⟨of_decide_eq_true h1.1, h1.2⟩
theorem xu_0 : ∀ w ∈ u_ws RX0 TX0 12, w ∈ xTs := x_all (by decide +kernel)
theorem xclo_0 : xclo vwCl xTs 0 RX0 TX0 12 tyX0 := ⟨rfl, xu_0, tyX0_ok, nmX0⟩
theorem xu_1 : ∀ w ∈ u_ws RX1 TX1 4, w ∈ xTs := x_all (by decide +kernel)
theorem xclo_1 : xclo vwCl xTs 1 RX1 TX1 4 tyX1 := ⟨rfl, xu_1, tyX1_ok, nmX1⟩
theorem xu_2 : ∀ w ∈ u_ws RX2 TX2 4, w ∈ xTs := x_all (by decide +kernel)
theorem xclo_2 : xclo vwCl xTs 2 RX2 TX2 4 tyX2 := ⟨rfl, xu_2, tyX2_ok, nmX2⟩
theorem xu_3 : ∀ w ∈ u_ws RX3 TX3 4, w ∈ xTs := x_all (by decide +kernel)
theorem xclo_3 : xclo vwCl xTs 3 RX3 TX3 4 tyX3 := ⟨rfl, xu_3, tyX3_ok, nmX3⟩
theorem xu_4 : ∀ w ∈ u_ws RX4 TX4 2, w ∈ xTs := x_all (by decide +kernel)
theorem xclo_4 : xclo vwCl xTs 4 RX4 TX4 2 tyX4 := ⟨rfl, xu_4, tyX4_ok, nmX4⟩
theorem xu_5 : ∀ w ∈ u_ws RX5 TX5 1, w ∈ xTs := x_all (by decide +kernel)
theorem xclo_5 : xclo vwCl xTs 5 RX5 TX5 1 tyX5 := ⟨rfl, xu_5, tyX5_ok, nmX5⟩
theorem xu_6 : ∀ w ∈ u_ws RX6 TX6 8, w ∈ xTs := x_all (by decide +kernel)
theorem xclo_6 : xclo vwCl xTs 6 RX6 TX6 8 tyX6 := ⟨rfl, xu_6, tyX6_ok, nmX6⟩
theorem xu_7 : ∀ w ∈ u_ws RX7 TX7 2, w ∈ xTs := x_all (by decide +kernel)
theorem xclo_7 : xclo vwCl xTs 7 RX7 TX7 2 tyX7 := ⟨rfl, xu_7, tyX7_ok, nmX7⟩
theorem xu_8 : ∀ w ∈ u_ws RX8 TX8 7, w ∈ xTs := x_all (by decide +kernel)
theorem xclo_8 : xclo vwCl xTs 8 RX8 TX8 7 tyX8 := ⟨rfl, xu_8, tyX8_ok, nmX8⟩
theorem xu_9 : ∀ w ∈ u_ws RX9 TX9 19, w ∈ xTs := x_all (by decide +kernel)
theorem xclo_9 : xclo vwCl xTs 9 RX9 TX9 19 tyX9 := ⟨rfl, xu_9, tyX9_ok, nmX9⟩
theorem xu_10 : ∀ w ∈ u_ws RX10 TX10 51, w ∈ xTs := x_all (by decide +kernel)
theorem xclo_10 : xclo vwCl xTs 10 RX10 TX10 51 tyX10 := ⟨rfl, xu_10, tyX10_ok, nmX10⟩
