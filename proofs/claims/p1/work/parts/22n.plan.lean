/-! ===== op 36: plan ===== -/
def xpop (b : Nat) : Nat := b % 2 + b / 2 % 2 + b / 4 % 2 + b / 8 % 2 + b / 16 % 2 + b / 32 % 2
def xmnk (b : Nat) : Bool := @decide _ (xd11 (xcf 20 xscA 191 [.inr (.inl (some (b : Int)))] []) (some (some (.inl ((xpop b : Int), (xpop b : Int))), [])))
theorem xmn0_0 : (List.range 8).all (fun i => xmnk (0 + i)) = true := by decide +kernel
theorem xmn0_8 : (List.range 8).all (fun i => xmnk (8 + i)) = true := by decide +kernel
theorem xmn0_16 : (List.range 8).all (fun i => xmnk (16 + i)) = true := by decide +kernel
theorem xmn0_24 : (List.range 8).all (fun i => xmnk (24 + i)) = true := by decide +kernel
theorem xmn0_32 : (List.range 8).all (fun i => xmnk (32 + i)) = true := by decide +kernel
theorem xmn0_40 : (List.range 8).all (fun i => xmnk (40 + i)) = true := by decide +kernel
theorem xmn0_48 : (List.range 8).all (fun i => xmnk (48 + i)) = true := by decide +kernel
theorem xmn0_56 : (List.range 8).all (fun i => xmnk (56 + i)) = true := by decide +kernel
theorem xmn {b : Nat} (hb : b < 64) {W : XW} : xcf 20 xscA 191 [.inr (.inl (some (b : Int)))] W = some (some (.inl ((xpop b : Int), (xpop b : Int))), W) := by
  have h : xmnk b = true := by
    rcases (show (0 ≤ b ∧ b < 8) ∨ (8 ≤ b ∧ b < 16) ∨ (16 ≤ b ∧ b < 24) ∨ (24 ≤ b ∧ b < 32) ∨ (32 ≤ b ∧ b < 40) ∨ (40 ≤ b ∧ b < 48) ∨ (48 ≤ b ∧ b < 56) ∨ (56 ≤ b ∧ b < 64) by omega) with h | h | h | h | h | h | h | h
    · exact x_pieces (F := xmnk) (a := 0) (b := 8) xmn0_0 h.1 (by omega)
    · exact x_pieces (F := xmnk) (a := 8) (b := 8) xmn0_8 h.1 (by omega)
    · exact x_pieces (F := xmnk) (a := 16) (b := 8) xmn0_16 h.1 (by omega)
    · exact x_pieces (F := xmnk) (a := 24) (b := 8) xmn0_24 h.1 (by omega)
    · exact x_pieces (F := xmnk) (a := 32) (b := 8) xmn0_32 h.1 (by omega)
    · exact x_pieces (F := xmnk) (a := 40) (b := 8) xmn0_40 h.1 (by omega)
    · exact x_pieces (F := xmnk) (a := 48) (b := 8) xmn0_48 h.1 (by omega)
    · exact x_pieces (F := xmnk) (a := 56) (b := 8) xmn0_56 h.1 (by omega)
  exact xcf_mrg W (w := []) (w' := []) (N := xm191) rfl rfl (@of_decide_eq_true _ (xd11 _ _) h)
def xbck (b : Nat) : Bool := @decide _ (xd11 (xcf 20 xscA 117 [.inl ((b : Int), (b : Int))] []) (some (some (.inl ((xpop b : Int), (xpop b : Int))), [])))
theorem xbc0 : (List.range 64).all xbck = true := by decide +kernel
theorem xbc {b : Nat} (hb : b < 64) {W : XW} : xcf 20 xscA 117 [.inl ((b : Int), (b : Int))] W = some (some (.inl ((xpop b : Int), (xpop b : Int))), W) := xcf_mrg W (w := []) (w' := []) (N := xm117) rfl rfl (@of_decide_eq_true _ (xd11 _ _) (List.all_eq_true.mp xbc0 b (List.mem_range.mpr hb)))
def xink (lo b : Nat) : Bool := @decide _ (xd11 (xcf 20 xscA 160 [.inl ((b : Int), (b : Int)), .inl ((lo : Int), (lo : Int)), .inl (63, 63)] []) (some (some (.inl (1, 1)), [])))
theorem xin0 : (List.range 64).all (fun b => xink 0 b) = true := by decide +kernel
theorem xin1 : (List.range 63).all (fun b => xink 1 (b + 1)) = true := by decide +kernel
theorem xin_0 {b : Nat} (hb : b < 64) {W : XW} : xcf 20 xscA 160 [.inl ((b : Int), (b : Int)), .inl (0, 0), .inl (63, 63)] W = some (some (.inl (1, 1)), W) := xcf_mrg W (w := []) (w' := []) (N := xm160) rfl rfl (@of_decide_eq_true _ (xd11 _ _) (List.all_eq_true.mp xin0 b (List.mem_range.mpr hb)))
theorem xin_1 {b : Nat} (h1 : 1 ≤ b) (hb : b < 64) {W : XW} : xcf 20 xscA 160 [.inl ((b : Int), (b : Int)), .inl (1, 1), .inl (63, 63)] W = some (some (.inl (1, 1)), W) := by
  have h := List.all_eq_true.mp xin1 (b - 1) (List.mem_range.mpr (by omega))
  rw [show b - 1 + 1 = b by omega] at h
  exact xcf_mrg W (w := []) (w' := []) (N := xm160) rfl rfl (@of_decide_eq_true _ (xd11 _ _) h)
theorem xf116_0 : xfetch (xm_t xm116) 0 = some (.iload_n 1, 0, 0, 0) := rfl
theorem xf116_1 : xfetch (xm_t xm116) 1 = some (.iconst 1, 0, 0, 1) := rfl
theorem xf116_2 : xfetch (xm_t xm116) 2 = some (.if_icmp .lt 19, 21, 0, 0) := rfl
theorem xf116_5 : xfetch (xm_t xm116) 5 = some (.iload_n 1, 0, 0, 0) := rfl
theorem xf116_6 : xfetch (xm_t xm116) 6 = some (.bipush 63, 0, 0, 63) := rfl
theorem xf116_8 : xfetch (xm_t xm116) 8 = some (.if_icmp .gt 13, 21, 0, 0) := rfl
theorem xf116_11 : xfetch (xm_t xm116) 11 = some (.iload_n 2, 0, 0, 0) := rfl
theorem xf116_12 : xfetch (xm_t xm116) 12 = some (.ifCond .lt 9, 21, 0, 0) := rfl
theorem xf116_15 : xfetch (xm_t xm116) 15 = some (.iload_n 2, 0, 0, 0) := rfl
theorem xf116_16 : xfetch (xm_t xm116) 16 = some (.bipush 63, 0, 0, 63) := rfl
theorem xf116_18 : xfetch (xm_t xm116) 18 = some (.if_icmp .le 5, 23, 0, 0) := rfl
theorem xf116_21 : xfetch (xm_t xm116) 21 = some (.iconst (-1), 0, 0, (-1)) := rfl
theorem xf116_22 : xfetch (xm_t xm116) 22 = some (.ireturn, 0, 0, 0) := rfl
theorem xf116_23 : xfetch (xm_t xm116) 23 = some (.iload_n 1, 0, 0, 0) := rfl
theorem xf116_24 : xfetch (xm_t xm116) 24 = some (.invokestatic 371, 117, 1, 0) := rfl
theorem xf116_27 : xfetch (xm_t xm116) 27 = some (.iconst 3, 0, 0, 3) := rfl
theorem xf116_28 : xfetch (xm_t xm116) 28 = some (.if_icmp .le 6, 34, 0, 0) := rfl
theorem xf116_31 : xfetch (xm_t xm116) 31 = some (.bipush (-6), 0, 0, (-6)) := rfl
theorem xf116_33 : xfetch (xm_t xm116) 33 = some (.ireturn, 0, 0, 0) := rfl
theorem xf116_34 : xfetch (xm_t xm116) 34 = some (.aload_n 0, 0, 0, 0) := rfl
theorem xf116_35 : xfetch (xm_t xm116) 35 = some (.iload_n 2, 0, 0, 0) := rfl
theorem xf116_36 : xfetch (xm_t xm116) 36 = some (.invokevirtual 375, 118, 2, 0) := rfl
theorem xf116_39 : xfetch (xm_t xm116) 39 = some (.istore_n 3, 0, 0, 0) := rfl
theorem xf116_40 : xfetch (xm_t xm116) 40 = some (.iload_n 3, 0, 0, 0) := rfl
theorem xf116_41 : xfetch (xm_t xm116) 41 = some (.ifCond .eq 9, 50, 0, 0) := rfl
theorem xf116_44 : xfetch (xm_t xm116) 44 = some (.aload_n 0, 0, 0, 0) := rfl
theorem xf116_45 : xfetch (xm_t xm116) 45 = some (.iload_n 3, 0, 0, 0) := rfl
theorem xf116_46 : xfetch (xm_t xm116) 46 = some (.invokevirtual 82, 10, 2, 0) := rfl
theorem xf116_49 : xfetch (xm_t xm116) 49 = some (.ireturn, 0, 0, 0) := rfl
theorem xf116_50 : xfetch (xm_t xm116) 50 = some (.aload_n 0, 0, 0, 0) := rfl
theorem xf116_51 : xfetch (xm_t xm116) 51 = some (.getfield 53, 9, 7, 0) := rfl
theorem xf116_54 : xfetch (xm_t xm116) 54 = some (.invokevirtual 378, 121, 1, 0) := rfl
theorem xf116_57 : xfetch (xm_t xm116) 57 = some (.iconst 0, 0, 0, 0) := rfl
theorem xf116_58 : xfetch (xm_t xm116) 58 = some (.istore 4, 0, 0, 0) := rfl
theorem xf116_60 : xfetch (xm_t xm116) 60 = some (.iconst 0, 0, 0, 0) := rfl
theorem xf116_61 : xfetch (xm_t xm116) 61 = some (.istore 5, 0, 0, 0) := rfl
theorem xf116_63 : xfetch (xm_t xm116) 63 = some (.iload 5, 0, 0, 0) := rfl
theorem xf116_65 : xfetch (xm_t xm116) 65 = some (.bipush 6, 0, 0, 6) := rfl
theorem xf116_67 : xfetch (xm_t xm116) 67 = some (.if_icmp .ge 31, 98, 0, 0) := rfl
theorem xf116_70 : xfetch (xm_t xm116) 70 = some (.iload_n 1, 0, 0, 0) := rfl
theorem xf116_71 : xfetch (xm_t xm116) 71 = some (.i2l, 0, 0, 0) := rfl
theorem xf116_72 : xfetch (xm_t xm116) 72 = some (.iload 5, 0, 0, 0) := rfl
theorem xf116_74 : xfetch (xm_t xm116) 74 = some (.invokestatic 325, 26, 2, 0) := rfl
theorem xf116_77 : xfetch (xm_t xm116) 77 = some (.ifCond .eq 15, 92, 0, 0) := rfl
theorem xf116_80 : xfetch (xm_t xm116) 80 = some (.aload_n 0, 0, 0, 0) := rfl
theorem xf116_81 : xfetch (xm_t xm116) 81 = some (.iload 4, 0, 0, 0) := rfl
theorem xf116_83 : xfetch (xm_t xm116) 83 = some (.iload 5, 0, 0, 0) := rfl
theorem xf116_85 : xfetch (xm_t xm116) 85 = some (.iload_n 2, 0, 0, 0) := rfl
theorem xf116_86 : xfetch (xm_t xm116) 86 = some (.invokevirtual 381, 122, 4, 0) := rfl
theorem xf116_89 : xfetch (xm_t xm116) 89 = some (.iinc 4 1, 0, 0, 1) := rfl
theorem xf116_92 : xfetch (xm_t xm116) 92 = some (.iinc 5 1, 0, 0, 1) := rfl
theorem xf116_95 : xfetch (xm_t xm116) 95 = some (.goto (-32), 63, 0, 0) := rfl
theorem xf116_98 : xfetch (xm_t xm116) 98 = some (.aload_n 0, 0, 0, 0) := rfl
theorem xf116_99 : xfetch (xm_t xm116) 99 = some (.getfield 53, 9, 7, 0) := rfl
theorem xf116_102 : xfetch (xm_t xm116) 102 = some (.invokevirtual 385, 126, 1, 0) := rfl
theorem xf116_105 : xfetch (xm_t xm116) 105 = some (.aload_n 0, 0, 0, 0) := rfl
theorem xf116_106 : xfetch (xm_t xm116) 106 = some (.aload_n 0, 0, 0, 0) := rfl
theorem xf116_107 : xfetch (xm_t xm116) 107 = some (.getfield 53, 9, 7, 0) := rfl
theorem xf116_110 : xfetch (xm_t xm116) 110 = some (.getfield 388, 3, 3, 0) := rfl
theorem xf116_113 : xfetch (xm_t xm116) 113 = some (.putfield 364, 9, 15, 0) := rfl
theorem xf116_116 : xfetch (xm_t xm116) 116 = some (.aload_n 0, 0, 0, 0) := rfl
theorem xf116_117 : xfetch (xm_t xm116) 117 = some (.getfield 53, 9, 7, 0) := rfl
theorem xf116_120 : xfetch (xm_t xm116) 120 = some (.getfield 391, 3, 2, 0) := rfl
theorem xf116_123 : xfetch (xm_t xm116) 123 = some (.ireturn, 0, 0, 0) := rfl
theorem xf235_0 : xfetch (xm_t xm235) 0 = some (.iload_n 1, 0, 0, 0) := rfl
theorem xf235_1 : xfetch (xm_t xm235) 1 = some (.iconst 1, 0, 0, 1) := rfl
theorem xf235_2 : xfetch (xm_t xm235) 2 = some (.bipush 63, 0, 0, 63) := rfl
theorem xf235_4 : xfetch (xm_t xm235) 4 = some (.invokestatic 146, 160, 3, 0) := rfl
theorem xf235_7 : xfetch (xm_t xm235) 7 = some (.ifCond .eq 13, 20, 0, 0) := rfl
theorem xf235_10 : xfetch (xm_t xm235) 10 = some (.iload_n 2, 0, 0, 0) := rfl
theorem xf235_11 : xfetch (xm_t xm235) 11 = some (.iconst 0, 0, 0, 0) := rfl
theorem xf235_12 : xfetch (xm_t xm235) 12 = some (.bipush 63, 0, 0, 63) := rfl
theorem xf235_14 : xfetch (xm_t xm235) 14 = some (.invokestatic 146, 160, 3, 0) := rfl
theorem xf235_17 : xfetch (xm_t xm235) 17 = some (.ifCond .ne 5, 22, 0, 0) := rfl
theorem xf235_20 : xfetch (xm_t xm235) 20 = some (.iconst (-1), 0, 0, (-1)) := rfl
theorem xf235_21 : xfetch (xm_t xm235) 21 = some (.ireturn, 0, 0, 0) := rfl
theorem xf235_22 : xfetch (xm_t xm235) 22 = some (.iload_n 1, 0, 0, 0) := rfl
theorem xf235_23 : xfetch (xm_t xm235) 23 = some (.i2l, 0, 0, 0) := rfl
theorem xf235_24 : xfetch (xm_t xm235) 24 = some (.invokestatic 213, 191, 1, 0) := rfl
theorem xf235_27 : xfetch (xm_t xm235) 27 = some (.iconst 3, 0, 0, 3) := rfl
theorem xf235_28 : xfetch (xm_t xm235) 28 = some (.if_icmp .le 6, 34, 0, 0) := rfl
theorem xf235_31 : xfetch (xm_t xm235) 31 = some (.bipush (-6), 0, 0, (-6)) := rfl
theorem xf235_33 : xfetch (xm_t xm235) 33 = some (.ireturn, 0, 0, 0) := rfl
theorem xf235_34 : xfetch (xm_t xm235) 34 = some (.iconst 0, 0, 0, 0) := rfl
theorem xf235_35 : xfetch (xm_t xm235) 35 = some (.istore_n 3, 0, 0, 0) := rfl
theorem xf235_36 : xfetch (xm_t xm235) 36 = some (.iload_n 3, 0, 0, 0) := rfl
theorem xf235_37 : xfetch (xm_t xm235) 37 = some (.bipush 6, 0, 0, 6) := rfl
theorem xf235_39 : xfetch (xm_t xm235) 39 = some (.if_icmp .ge 33, 72, 0, 0) := rfl
theorem xf235_42 : xfetch (xm_t xm235) 42 = some (.iload_n 2, 0, 0, 0) := rfl
theorem xf235_43 : xfetch (xm_t xm235) 43 = some (.i2l, 0, 0, 0) := rfl
theorem xf235_44 : xfetch (xm_t xm235) 44 = some (.iload_n 3, 0, 0, 0) := rfl
theorem xf235_45 : xfetch (xm_t xm235) 45 = some (.invokestatic 150, 192, 2, 0) := rfl
theorem xf235_48 : xfetch (xm_t xm235) 48 = some (.ifCond .eq 18, 66, 0, 0) := rfl
theorem xf235_51 : xfetch (xm_t xm235) 51 = some (.aload_n 0, 0, 0, 0) := rfl
theorem xf235_52 : xfetch (xm_t xm235) 52 = some (.getfield 17, 10, 7, 0) := rfl
theorem xf235_55 : xfetch (xm_t xm235) 55 = some (.iload_n 3, 0, 0, 0) := rfl
theorem xf235_56 : xfetch (xm_t xm235) 56 = some (.iaload, 0, 0, 0) := rfl
theorem xf235_57 : xfetch (xm_t xm235) 57 = some (.ifCond .ge 9, 66, 0, 0) := rfl
theorem xf235_60 : xfetch (xm_t xm235) 60 = some (.aload_n 0, 0, 0, 0) := rfl
theorem xf235_61 : xfetch (xm_t xm235) 61 = some (.iconst 1, 0, 0, 1) := rfl
theorem xf235_62 : xfetch (xm_t xm235) 62 = some (.invokevirtual 158, 161, 2, 0) := rfl
theorem xf235_65 : xfetch (xm_t xm235) 65 = some (.ireturn, 0, 0, 0) := rfl
theorem xf235_66 : xfetch (xm_t xm235) 66 = some (.iinc 3 1, 0, 0, 1) := rfl
theorem xf235_69 : xfetch (xm_t xm235) 69 = some (.goto (-33), 36, 0, 0) := rfl
theorem xf235_72 : xfetch (xm_t xm235) 72 = some (.iconst 0, 0, 0, 0) := rfl
theorem xf235_73 : xfetch (xm_t xm235) 73 = some (.istore_n 3, 0, 0, 0) := rfl
theorem xf235_74 : xfetch (xm_t xm235) 74 = some (.iload_n 3, 0, 0, 0) := rfl
theorem xf235_75 : xfetch (xm_t xm235) 75 = some (.bipush 6, 0, 0, 6) := rfl
theorem xf235_77 : xfetch (xm_t xm235) 77 = some (.if_icmp .ge 39, 116, 0, 0) := rfl
theorem xf235_80 : xfetch (xm_t xm235) 80 = some (.iload_n 2, 0, 0, 0) := rfl
theorem xf235_81 : xfetch (xm_t xm235) 81 = some (.i2l, 0, 0, 0) := rfl
theorem xf235_82 : xfetch (xm_t xm235) 82 = some (.iload_n 3, 0, 0, 0) := rfl
theorem xf235_83 : xfetch (xm_t xm235) 83 = some (.invokestatic 150, 192, 2, 0) := rfl
theorem xf235_86 : xfetch (xm_t xm235) 86 = some (.ifCond .eq 24, 110, 0, 0) := rfl
theorem xf235_89 : xfetch (xm_t xm235) 89 = some (.aload_n 0, 0, 0, 0) := rfl
theorem xf235_90 : xfetch (xm_t xm235) 90 = some (.getfield 17, 10, 7, 0) := rfl
theorem xf235_93 : xfetch (xm_t xm235) 93 = some (.iload_n 3, 0, 0, 0) := rfl
theorem xf235_94 : xfetch (xm_t xm235) 94 = some (.iaload, 0, 0, 0) := rfl
theorem xf235_95 : xfetch (xm_t xm235) 95 = some (.iconst 1, 0, 0, 1) := rfl
theorem xf235_96 : xfetch (xm_t xm235) 96 = some (.bipush 12, 0, 0, 12) := rfl
theorem xf235_98 : xfetch (xm_t xm235) 98 = some (.invokestatic 146, 160, 3, 0) := rfl
theorem xf235_101 : xfetch (xm_t xm235) 101 = some (.ifCond .ne 9, 110, 0, 0) := rfl
theorem xf235_104 : xfetch (xm_t xm235) 104 = some (.aload_n 0, 0, 0, 0) := rfl
theorem xf235_105 : xfetch (xm_t xm235) 105 = some (.iconst 5, 0, 0, 5) := rfl
theorem xf235_106 : xfetch (xm_t xm235) 106 = some (.invokevirtual 158, 161, 2, 0) := rfl
theorem xf235_109 : xfetch (xm_t xm235) 109 = some (.ireturn, 0, 0, 0) := rfl
theorem xf235_110 : xfetch (xm_t xm235) 110 = some (.iinc 3 1, 0, 0, 1) := rfl
theorem xf235_113 : xfetch (xm_t xm235) 113 = some (.goto (-39), 74, 0, 0) := rfl
theorem xf235_116 : xfetch (xm_t xm235) 116 = some (.iconst 0, 0, 0, 0) := rfl
theorem xf235_117 : xfetch (xm_t xm235) 117 = some (.istore_n 3, 0, 0, 0) := rfl
theorem xf235_118 : xfetch (xm_t xm235) 118 = some (.iload_n 3, 0, 0, 0) := rfl
theorem xf235_119 : xfetch (xm_t xm235) 119 = some (.bipush 6, 0, 0, 6) := rfl
theorem xf235_121 : xfetch (xm_t xm235) 121 = some (.if_icmp .ge 38, 159, 0, 0) := rfl
theorem xf235_124 : xfetch (xm_t xm235) 124 = some (.iload_n 2, 0, 0, 0) := rfl
theorem xf235_125 : xfetch (xm_t xm235) 125 = some (.i2l, 0, 0, 0) := rfl
theorem xf235_126 : xfetch (xm_t xm235) 126 = some (.iload_n 3, 0, 0, 0) := rfl
theorem xf235_127 : xfetch (xm_t xm235) 127 = some (.invokestatic 150, 192, 2, 0) := rfl
theorem xf235_130 : xfetch (xm_t xm235) 130 = some (.ifCond .eq 23, 153, 0, 0) := rfl
theorem xf235_133 : xfetch (xm_t xm235) 133 = some (.aload_n 0, 0, 0, 0) := rfl
theorem xf235_134 : xfetch (xm_t xm235) 134 = some (.iload_n 3, 0, 0, 0) := rfl
theorem xf235_135 : xfetch (xm_t xm235) 135 = some (.aload_n 0, 0, 0, 0) := rfl
theorem xf235_136 : xfetch (xm_t xm235) 136 = some (.getfield 17, 10, 7, 0) := rfl
theorem xf235_139 : xfetch (xm_t xm235) 139 = some (.iload_n 3, 0, 0, 0) := rfl
theorem xf235_140 : xfetch (xm_t xm235) 140 = some (.iaload, 0, 0, 0) := rfl
theorem xf235_141 : xfetch (xm_t xm235) 141 = some (.invokevirtual 298, 236, 3, 0) := rfl
theorem xf235_144 : xfetch (xm_t xm235) 144 = some (.ifCond .ne 9, 153, 0, 0) := rfl
theorem xf235_147 : xfetch (xm_t xm235) 147 = some (.aload_n 0, 0, 0, 0) := rfl
theorem xf235_148 : xfetch (xm_t xm235) 148 = some (.iconst 3, 0, 0, 3) := rfl
theorem xf235_149 : xfetch (xm_t xm235) 149 = some (.invokevirtual 158, 161, 2, 0) := rfl
theorem xf235_152 : xfetch (xm_t xm235) 152 = some (.ireturn, 0, 0, 0) := rfl
theorem xf235_153 : xfetch (xm_t xm235) 153 = some (.iinc 3 1, 0, 0, 1) := rfl
theorem xf235_156 : xfetch (xm_t xm235) 156 = some (.goto (-38), 118, 0, 0) := rfl
theorem xf235_159 : xfetch (xm_t xm235) 159 = some (.iconst 0, 0, 0, 0) := rfl
theorem xf235_160 : xfetch (xm_t xm235) 160 = some (.istore_n 3, 0, 0, 0) := rfl
theorem xf235_161 : xfetch (xm_t xm235) 161 = some (.iconst 0, 0, 0, 0) := rfl
theorem xf235_162 : xfetch (xm_t xm235) 162 = some (.istore 4, 0, 0, 0) := rfl
theorem xf235_164 : xfetch (xm_t xm235) 164 = some (.iload 4, 0, 0, 0) := rfl
theorem xf235_166 : xfetch (xm_t xm235) 166 = some (.bipush 6, 0, 0, 6) := rfl
theorem xf235_168 : xfetch (xm_t xm235) 168 = some (.if_icmp .ge 84, 252, 0, 0) := rfl
theorem xf235_171 : xfetch (xm_t xm235) 171 = some (.iload_n 1, 0, 0, 0) := rfl
theorem xf235_172 : xfetch (xm_t xm235) 172 = some (.i2l, 0, 0, 0) := rfl
theorem xf235_173 : xfetch (xm_t xm235) 173 = some (.iload 4, 0, 0, 0) := rfl
theorem xf235_175 : xfetch (xm_t xm235) 175 = some (.invokestatic 150, 192, 2, 0) := rfl
theorem xf235_178 : xfetch (xm_t xm235) 178 = some (.ifCond .eq 68, 246, 0, 0) := rfl
theorem xf235_181 : xfetch (xm_t xm235) 181 = some (.iconst 0, 0, 0, 0) := rfl
theorem xf235_182 : xfetch (xm_t xm235) 182 = some (.istore 5, 0, 0, 0) := rfl
theorem xf235_184 : xfetch (xm_t xm235) 184 = some (.iload 5, 0, 0, 0) := rfl
theorem xf235_186 : xfetch (xm_t xm235) 186 = some (.bipush 6, 0, 0, 6) := rfl
theorem xf235_188 : xfetch (xm_t xm235) 188 = some (.if_icmp .ge 45, 233, 0, 0) := rfl
theorem xf235_191 : xfetch (xm_t xm235) 191 = some (.aload_n 0, 0, 0, 0) := rfl
theorem xf235_192 : xfetch (xm_t xm235) 192 = some (.getfield 131, 10, 47, 0) := rfl
theorem xf235_195 : xfetch (xm_t xm235) 195 = some (.bipush 7, 0, 0, 7) := rfl
theorem xf235_197 : xfetch (xm_t xm235) 197 = some (.iload_n 3, 0, 0, 0) := rfl
theorem xf235_198 : xfetch (xm_t xm235) 198 = some (.imul, 0, 0, 0) := rfl
theorem xf235_199 : xfetch (xm_t xm235) 199 = some (.iload 5, 0, 0, 0) := rfl
theorem xf235_201 : xfetch (xm_t xm235) 201 = some (.iadd, 0, 0, 0) := rfl
theorem xf235_202 : xfetch (xm_t xm235) 202 = some (.iconst 1, 0, 0, 1) := rfl
theorem xf235_203 : xfetch (xm_t xm235) 203 = some (.iadd, 0, 0, 0) := rfl
theorem xf235_204 : xfetch (xm_t xm235) 204 = some (.iload_n 2, 0, 0, 0) := rfl
theorem xf235_205 : xfetch (xm_t xm235) 205 = some (.i2l, 0, 0, 0) := rfl
theorem xf235_206 : xfetch (xm_t xm235) 206 = some (.iload 5, 0, 0, 0) := rfl
theorem xf235_208 : xfetch (xm_t xm235) 208 = some (.invokestatic 150, 192, 2, 0) := rfl
theorem xf235_211 : xfetch (xm_t xm235) 211 = some (.ifCond .eq 14, 225, 0, 0) := rfl
theorem xf235_214 : xfetch (xm_t xm235) 214 = some (.aload_n 0, 0, 0, 0) := rfl
theorem xf235_215 : xfetch (xm_t xm235) 215 = some (.iload 4, 0, 0, 0) := rfl
theorem xf235_217 : xfetch (xm_t xm235) 217 = some (.iload 5, 0, 0, 0) := rfl
theorem xf235_219 : xfetch (xm_t xm235) 219 = some (.invokevirtual 301, 237, 3, 0) := rfl
theorem xf235_222 : xfetch (xm_t xm235) 222 = some (.goto 4, 226, 0, 0) := rfl
theorem xf235_225 : xfetch (xm_t xm235) 225 = some (.lconst 0, 0, 0, 0) := rfl
theorem xf235_226 : xfetch (xm_t xm235) 226 = some (.lastore, 0, 0, 0) := rfl
theorem xf235_227 : xfetch (xm_t xm235) 227 = some (.iinc 5 1, 0, 0, 1) := rfl
theorem xf235_230 : xfetch (xm_t xm235) 230 = some (.goto (-46), 184, 0, 0) := rfl
theorem xf235_233 : xfetch (xm_t xm235) 233 = some (.aload_n 0, 0, 0, 0) := rfl
theorem xf235_234 : xfetch (xm_t xm235) 234 = some (.getfield 131, 10, 47, 0) := rfl
theorem xf235_237 : xfetch (xm_t xm235) 237 = some (.bipush 7, 0, 0, 7) := rfl
theorem xf235_239 : xfetch (xm_t xm235) 239 = some (.iload_n 3, 0, 0, 0) := rfl
theorem xf235_240 : xfetch (xm_t xm235) 240 = some (.imul, 0, 0, 0) := rfl
theorem xf235_241 : xfetch (xm_t xm235) 241 = some (.lconst 0, 0, 0, 0) := rfl
theorem xf235_242 : xfetch (xm_t xm235) 242 = some (.lastore, 0, 0, 0) := rfl
theorem xf235_243 : xfetch (xm_t xm235) 243 = some (.iinc 3 1, 0, 0, 1) := rfl
theorem xf235_246 : xfetch (xm_t xm235) 246 = some (.iinc 4 1, 0, 0, 1) := rfl
theorem xf235_249 : xfetch (xm_t xm235) 249 = some (.goto (-85), 164, 0, 0) := rfl
theorem xf235_252 : xfetch (xm_t xm235) 252 = some (.bipush (-9), 0, 0, (-9)) := rfl
theorem xf235_254 : xfetch (xm_t xm235) 254 = some (.istore 4, 0, 0, 0) := rfl
theorem xf235_256 : xfetch (xm_t xm235) 256 = some (.iconst 0, 0, 0, 0) := rfl
theorem xf235_257 : xfetch (xm_t xm235) 257 = some (.istore 5, 0, 0, 0) := rfl
theorem xf235_259 : xfetch (xm_t xm235) 259 = some (.iconst 0, 0, 0, 0) := rfl
theorem xf235_260 : xfetch (xm_t xm235) 260 = some (.istore 6, 0, 0, 0) := rfl
theorem xf235_262 : xfetch (xm_t xm235) 262 = some (.iload 6, 0, 0, 0) := rfl
theorem xf235_264 : xfetch (xm_t xm235) 264 = some (.sipush 343, 0, 0, 343) := rfl
theorem xf235_267 : xfetch (xm_t xm235) 267 = some (.if_icmp .ge 196, 463, 0, 0) := rfl
theorem xf235_270 : xfetch (xm_t xm235) 270 = some (.iload 6, 0, 0, 0) := rfl
theorem xf235_272 : xfetch (xm_t xm235) 272 = some (.bipush 49, 0, 0, 49) := rfl
theorem xf235_274 : xfetch (xm_t xm235) 274 = some (.idiv, 0, 0, 0) := rfl
theorem xf235_275 : xfetch (xm_t xm235) 275 = some (.istore 7, 0, 0, 0) := rfl
theorem xf235_277 : xfetch (xm_t xm235) 277 = some (.iload 6, 0, 0, 0) := rfl
theorem xf235_279 : xfetch (xm_t xm235) 279 = some (.bipush 7, 0, 0, 7) := rfl
theorem xf235_281 : xfetch (xm_t xm235) 281 = some (.idiv, 0, 0, 0) := rfl
theorem xf235_282 : xfetch (xm_t xm235) 282 = some (.bipush 7, 0, 0, 7) := rfl
theorem xf235_284 : xfetch (xm_t xm235) 284 = some (.irem, 0, 0, 0) := rfl
theorem xf235_285 : xfetch (xm_t xm235) 285 = some (.istore 8, 0, 0, 0) := rfl
theorem xf235_287 : xfetch (xm_t xm235) 287 = some (.iload 6, 0, 0, 0) := rfl
theorem xf235_289 : xfetch (xm_t xm235) 289 = some (.bipush 7, 0, 0, 7) := rfl
theorem xf235_291 : xfetch (xm_t xm235) 291 = some (.irem, 0, 0, 0) := rfl
theorem xf235_292 : xfetch (xm_t xm235) 292 = some (.istore 9, 0, 0, 0) := rfl
theorem xf235_294 : xfetch (xm_t xm235) 294 = some (.iload 7, 0, 0, 0) := rfl
theorem xf235_296 : xfetch (xm_t xm235) 296 = some (.ifCond .eq 15, 311, 0, 0) := rfl
theorem xf235_299 : xfetch (xm_t xm235) 299 = some (.aload_n 0, 0, 0, 0) := rfl
theorem xf235_300 : xfetch (xm_t xm235) 300 = some (.getfield 131, 10, 47, 0) := rfl
theorem xf235_303 : xfetch (xm_t xm235) 303 = some (.iload 7, 0, 0, 0) := rfl
theorem xf235_305 : xfetch (xm_t xm235) 305 = some (.laload, 0, 0, 0) := rfl
theorem xf235_306 : xfetch (xm_t xm235) 306 = some (.lconst 0, 0, 0, 0) := rfl
theorem xf235_307 : xfetch (xm_t xm235) 307 = some (.lcmp, 0, 0, 0) := rfl
theorem xf235_308 : xfetch (xm_t xm235) 308 = some (.ifCond .eq 57, 365, 0, 0) := rfl
theorem xf235_311 : xfetch (xm_t xm235) 311 = some (.iload 8, 0, 0, 0) := rfl
theorem xf235_313 : xfetch (xm_t xm235) 313 = some (.ifCond .eq 23, 336, 0, 0) := rfl
theorem xf235_316 : xfetch (xm_t xm235) 316 = some (.iload_n 3, 0, 0, 0) := rfl
theorem xf235_317 : xfetch (xm_t xm235) 317 = some (.iconst 1, 0, 0, 1) := rfl
theorem xf235_318 : xfetch (xm_t xm235) 318 = some (.if_icmp .le 47, 365, 0, 0) := rfl
theorem xf235_321 : xfetch (xm_t xm235) 321 = some (.aload_n 0, 0, 0, 0) := rfl
theorem xf235_322 : xfetch (xm_t xm235) 322 = some (.getfield 131, 10, 47, 0) := rfl
theorem xf235_325 : xfetch (xm_t xm235) 325 = some (.bipush 7, 0, 0, 7) := rfl
theorem xf235_327 : xfetch (xm_t xm235) 327 = some (.iload 8, 0, 0, 0) := rfl
theorem xf235_329 : xfetch (xm_t xm235) 329 = some (.iadd, 0, 0, 0) := rfl
theorem xf235_330 : xfetch (xm_t xm235) 330 = some (.laload, 0, 0, 0) := rfl
theorem xf235_331 : xfetch (xm_t xm235) 331 = some (.lconst 0, 0, 0, 0) := rfl
theorem xf235_332 : xfetch (xm_t xm235) 332 = some (.lcmp, 0, 0, 0) := rfl
theorem xf235_333 : xfetch (xm_t xm235) 333 = some (.ifCond .eq 32, 365, 0, 0) := rfl
theorem xf235_336 : xfetch (xm_t xm235) 336 = some (.iload 9, 0, 0, 0) := rfl
theorem xf235_338 : xfetch (xm_t xm235) 338 = some (.ifCond .eq 23, 361, 0, 0) := rfl
theorem xf235_341 : xfetch (xm_t xm235) 341 = some (.iload_n 3, 0, 0, 0) := rfl
theorem xf235_342 : xfetch (xm_t xm235) 342 = some (.iconst 2, 0, 0, 2) := rfl
theorem xf235_343 : xfetch (xm_t xm235) 343 = some (.if_icmp .le 22, 365, 0, 0) := rfl
theorem xf235_346 : xfetch (xm_t xm235) 346 = some (.aload_n 0, 0, 0, 0) := rfl
theorem xf235_347 : xfetch (xm_t xm235) 347 = some (.getfield 131, 10, 47, 0) := rfl
theorem xf235_350 : xfetch (xm_t xm235) 350 = some (.bipush 14, 0, 0, 14) := rfl
theorem xf235_352 : xfetch (xm_t xm235) 352 = some (.iload 9, 0, 0, 0) := rfl
theorem xf235_354 : xfetch (xm_t xm235) 354 = some (.iadd, 0, 0, 0) := rfl
theorem xf235_355 : xfetch (xm_t xm235) 355 = some (.laload, 0, 0, 0) := rfl
theorem xf235_356 : xfetch (xm_t xm235) 356 = some (.lconst 0, 0, 0, 0) := rfl
theorem xf235_357 : xfetch (xm_t xm235) 357 = some (.lcmp, 0, 0, 0) := rfl
theorem xf235_358 : xfetch (xm_t xm235) 358 = some (.ifCond .eq 7, 365, 0, 0) := rfl
theorem xf235_361 : xfetch (xm_t xm235) 361 = some (.iconst 1, 0, 0, 1) := rfl
theorem xf235_362 : xfetch (xm_t xm235) 362 = some (.goto 4, 366, 0, 0) := rfl
theorem xf235_365 : xfetch (xm_t xm235) 365 = some (.iconst 0, 0, 0, 0) := rfl
theorem xf235_366 : xfetch (xm_t xm235) 366 = some (.istore 10, 0, 0, 0) := rfl
theorem xf235_368 : xfetch (xm_t xm235) 368 = some (.iload 10, 0, 0, 0) := rfl
theorem xf235_370 : xfetch (xm_t xm235) 370 = some (.ifCond .ne 8, 378, 0, 0) := rfl
theorem xf235_373 : xfetch (xm_t xm235) 373 = some (.bipush (-9), 0, 0, (-9)) := rfl
theorem xf235_375 : xfetch (xm_t xm235) 375 = some (.goto 53, 428, 0, 0) := rfl
theorem xf235_378 : xfetch (xm_t xm235) 378 = some (.aload_n 0, 0, 0, 0) := rfl
theorem xf235_379 : xfetch (xm_t xm235) 379 = some (.getfield 131, 10, 47, 0) := rfl
theorem xf235_382 : xfetch (xm_t xm235) 382 = some (.iload 7, 0, 0, 0) := rfl
theorem xf235_384 : xfetch (xm_t xm235) 384 = some (.laload, 0, 0, 0) := rfl
theorem xf235_385 : xfetch (xm_t xm235) 385 = some (.iload_n 3, 0, 0, 0) := rfl
theorem xf235_386 : xfetch (xm_t xm235) 386 = some (.iconst 1, 0, 0, 1) := rfl
theorem xf235_387 : xfetch (xm_t xm235) 387 = some (.if_icmp .le 16, 403, 0, 0) := rfl
theorem xf235_390 : xfetch (xm_t xm235) 390 = some (.aload_n 0, 0, 0, 0) := rfl
theorem xf235_391 : xfetch (xm_t xm235) 391 = some (.getfield 131, 10, 47, 0) := rfl
theorem xf235_394 : xfetch (xm_t xm235) 394 = some (.bipush 7, 0, 0, 7) := rfl
theorem xf235_396 : xfetch (xm_t xm235) 396 = some (.iload 8, 0, 0, 0) := rfl
theorem xf235_398 : xfetch (xm_t xm235) 398 = some (.iadd, 0, 0, 0) := rfl
theorem xf235_399 : xfetch (xm_t xm235) 399 = some (.laload, 0, 0, 0) := rfl
theorem xf235_400 : xfetch (xm_t xm235) 400 = some (.goto 4, 404, 0, 0) := rfl
theorem xf235_403 : xfetch (xm_t xm235) 403 = some (.lconst 0, 0, 0, 0) := rfl
theorem xf235_404 : xfetch (xm_t xm235) 404 = some (.lor, 0, 0, 0) := rfl
theorem xf235_405 : xfetch (xm_t xm235) 405 = some (.iload_n 3, 0, 0, 0) := rfl
theorem xf235_406 : xfetch (xm_t xm235) 406 = some (.iconst 2, 0, 0, 2) := rfl
theorem xf235_407 : xfetch (xm_t xm235) 407 = some (.if_icmp .le 16, 423, 0, 0) := rfl
theorem xf235_410 : xfetch (xm_t xm235) 410 = some (.aload_n 0, 0, 0, 0) := rfl
theorem xf235_411 : xfetch (xm_t xm235) 411 = some (.getfield 131, 10, 47, 0) := rfl
theorem xf235_414 : xfetch (xm_t xm235) 414 = some (.bipush 14, 0, 0, 14) := rfl
theorem xf235_416 : xfetch (xm_t xm235) 416 = some (.iload 9, 0, 0, 0) := rfl
theorem xf235_418 : xfetch (xm_t xm235) 418 = some (.iadd, 0, 0, 0) := rfl
theorem xf235_419 : xfetch (xm_t xm235) 419 = some (.laload, 0, 0, 0) := rfl
theorem xf235_420 : xfetch (xm_t xm235) 420 = some (.goto 4, 424, 0, 0) := rfl
theorem xf235_423 : xfetch (xm_t xm235) 423 = some (.lconst 0, 0, 0, 0) := rfl
theorem xf235_424 : xfetch (xm_t xm235) 424 = some (.lor, 0, 0, 0) := rfl
theorem xf235_425 : xfetch (xm_t xm235) 425 = some (.invokestatic 213, 191, 1, 0) := rfl
theorem xf235_428 : xfetch (xm_t xm235) 428 = some (.istore 11, 0, 0, 0) := rfl
theorem xf235_430 : xfetch (xm_t xm235) 430 = some (.iload 11, 0, 0, 0) := rfl
theorem xf235_432 : xfetch (xm_t xm235) 432 = some (.iload 4, 0, 0, 0) := rfl
theorem xf235_434 : xfetch (xm_t xm235) 434 = some (.if_icmp .le 23, 457, 0, 0) := rfl
theorem xf235_437 : xfetch (xm_t xm235) 437 = some (.iload 11, 0, 0, 0) := rfl
theorem xf235_439 : xfetch (xm_t xm235) 439 = some (.istore 4, 0, 0, 0) := rfl
theorem xf235_441 : xfetch (xm_t xm235) 441 = some (.iload 7, 0, 0, 0) := rfl
theorem xf235_443 : xfetch (xm_t xm235) 443 = some (.bipush 10, 0, 0, 10) := rfl
theorem xf235_445 : xfetch (xm_t xm235) 445 = some (.iload 8, 0, 0, 0) := rfl
theorem xf235_447 : xfetch (xm_t xm235) 447 = some (.imul, 0, 0, 0) := rfl
theorem xf235_448 : xfetch (xm_t xm235) 448 = some (.iadd, 0, 0, 0) := rfl
theorem xf235_449 : xfetch (xm_t xm235) 449 = some (.bipush 100, 0, 0, 100) := rfl
theorem xf235_451 : xfetch (xm_t xm235) 451 = some (.iload 9, 0, 0, 0) := rfl
theorem xf235_453 : xfetch (xm_t xm235) 453 = some (.imul, 0, 0, 0) := rfl
theorem xf235_454 : xfetch (xm_t xm235) 454 = some (.iadd, 0, 0, 0) := rfl
theorem xf235_455 : xfetch (xm_t xm235) 455 = some (.istore 5, 0, 0, 0) := rfl
theorem xf235_457 : xfetch (xm_t xm235) 457 = some (.iinc 6 1, 0, 0, 1) := rfl
theorem xf235_460 : xfetch (xm_t xm235) 460 = some (.goto (-198), 262, 0, 0) := rfl
theorem xf235_463 : xfetch (xm_t xm235) 463 = some (.aload_n 0, 0, 0, 0) := rfl
theorem xf235_464 : xfetch (xm_t xm235) 464 = some (.iload 5, 0, 0, 0) := rfl
theorem xf235_466 : xfetch (xm_t xm235) 466 = some (.iload 4, 0, 0, 0) := rfl
theorem xf235_468 : xfetch (xm_t xm235) 468 = some (.invokevirtual 172, 168, 3, 0) := rfl
theorem xf235_471 : xfetch (xm_t xm235) 471 = some (.ireturn, 0, 0, 0) := rfl
theorem xclt_of {x y : Int} : xcmp .lt (x, x) (y, y) = some (decide (x < y)) := xlt_of
theorem xcle_of {x y : Int} : xcmp .le (x, x) (y, y) = some (decide (x ≤ y)) := by
  show xno (xlt (y, y) (x, x)) = _
  rw [xlt_of]
  by_cases h : y < x
  · simp [h, xno, Int.not_le.mpr h]
  · simp [h, xno, Int.not_lt.mp h]
theorem sx_i2l {cf : XF} {MT : Nat → Option XM} {FT : Nat → Nat → Option FieldType} {FD : Nat → Option (List XV)} {TY : Nat → Option FieldType} {TC : Nat → Option Nat} {exc : List (List XV)} {M : XM} {pc : Nat} {lv : XL} {st : List XV} {w : XW} {k n a b : Nat} {z x : Int} : xins cf MT FT FD TY TC exc M .i2l a b z pc lv (.inl (x, x) :: st) w k n = some (.inl (pc + 1, lv, .inr (.inl (some x)) :: st, w, k, n)) := by
  simp only [xins, xh_i2l, if_true]
section XPL
variable {l : Launch} {D : va_G} {tA : Nat → ClassId} {ex : List Nat}
set_option maxRecDepth 100000 in
set_option maxHeartbeats 4000000 in
theorem xpc_6 {b s : Nat} (h1 : 1 ≤ b) (hb : b < 64) (hs : s < 64) (hp : 3 < xpop b) : XMet l D vwCl (tysX tA) tA ex (xSTX ++ [xscA]) xSV xNW xNF xTs xm116 [.inr (.inr (1, 0)), .inl ((b : Int), (b : Int)), .inl ((s : Int), (s : Int))] xw0 (some (.inl (-6, -6))) (xw0) := by
  refine xmet_ofK x_good (x_tysX tA) (x_tysY tA) (x_tysC tA) x_ok (fun j N as w ro w' => xcf_met j N as w ro w') (j := 116) (w2 := xw0) (k2 := 0) (n2 := 0) rfl (Nat.le_of_ble_eq_true rfl) ⟨Nat.le_refl _, Nat.le_refl _⟩ (Or.inr rfl) (fun P hP hF => ?_)
  show P (.inl (0, [(0, .inr (.inr (1, 0))), (1, .inl ((b : Int), (b : Int))), (2, .inl ((s : Int), (s : Int)))], [], xw0, 0, 0))
  refine hP.go (r := .inl (1, [(0, .inr (.inr (1, 0))), (1, .inl ((b : Int), (b : Int))), (2, .inl ((s : Int), (s : Int)))], [.inl ((b : Int), (b : Int))], xw0, 0, 0)) xf116_0 rfl ?_
  refine hP.go (r := .inl (2, [(0, .inr (.inr (1, 0))), (1, .inl ((b : Int), (b : Int))), (2, .inl ((s : Int), (s : Int)))], [.inl ((1 : Int), (1 : Int)), .inl ((b : Int), (b : Int))], xw0, 0, 0)) xf116_1 rfl ?_
  refine hP.go (r := .inl (5, [(0, .inr (.inr (1, 0))), (1, .inl ((b : Int), (b : Int))), (2, .inl ((s : Int), (s : Int)))], [], xw0, 0, 0)) xf116_2 (sx_icmp (o := false) (xclt_of.trans (by simp <;> omega))) ?_
  refine hP.go (r := .inl (6, [(0, .inr (.inr (1, 0))), (1, .inl ((b : Int), (b : Int))), (2, .inl ((s : Int), (s : Int)))], [.inl ((b : Int), (b : Int))], xw0, 0, 0)) xf116_5 rfl ?_
  refine hP.go (r := .inl (8, [(0, .inr (.inr (1, 0))), (1, .inl ((b : Int), (b : Int))), (2, .inl ((s : Int), (s : Int)))], [.inl ((63 : Int), (63 : Int)), .inl ((b : Int), (b : Int))], xw0, 0, 0)) xf116_6 rfl ?_
  refine hP.go (r := .inl (11, [(0, .inr (.inr (1, 0))), (1, .inl ((b : Int), (b : Int))), (2, .inl ((s : Int), (s : Int)))], [], xw0, 0, 0)) xf116_8 (sx_icmp (o := false) (xgt_of.trans (by simp <;> omega))) ?_
  refine hP.go (r := .inl (12, [(0, .inr (.inr (1, 0))), (1, .inl ((b : Int), (b : Int))), (2, .inl ((s : Int), (s : Int)))], [.inl ((s : Int), (s : Int))], xw0, 0, 0)) xf116_11 rfl ?_
  refine hP.go (r := .inl (15, [(0, .inr (.inr (1, 0))), (1, .inl ((b : Int), (b : Int))), (2, .inl ((s : Int), (s : Int)))], [], xw0, 0, 0)) xf116_12 (sx_if (o := false) (xclt_of.trans (by simp <;> omega))) ?_
  refine hP.go (r := .inl (16, [(0, .inr (.inr (1, 0))), (1, .inl ((b : Int), (b : Int))), (2, .inl ((s : Int), (s : Int)))], [.inl ((s : Int), (s : Int))], xw0, 0, 0)) xf116_15 rfl ?_
  refine hP.go (r := .inl (18, [(0, .inr (.inr (1, 0))), (1, .inl ((b : Int), (b : Int))), (2, .inl ((s : Int), (s : Int)))], [.inl ((63 : Int), (63 : Int)), .inl ((s : Int), (s : Int))], xw0, 0, 0)) xf116_16 rfl ?_
  refine hP.go (r := .inl (23, [(0, .inr (.inr (1, 0))), (1, .inl ((b : Int), (b : Int))), (2, .inl ((s : Int), (s : Int)))], [], xw0, 0, 0)) xf116_18 (sx_icmp (o := true) (xcle_of.trans (by simp <;> omega))) ?_
  refine hP.go (r := .inl (24, [(0, .inr (.inr (1, 0))), (1, .inl ((b : Int), (b : Int))), (2, .inl ((s : Int), (s : Int)))], [.inl ((b : Int), (b : Int))], xw0, 0, 0)) xf116_23 rfl ?_
  refine hP.go (r := .inl (27, [(0, .inr (.inr (1, 0))), (1, .inl ((b : Int), (b : Int))), (2, .inl ((s : Int), (s : Int)))], [.inl ((xpop b : Int), (xpop b : Int))], xw0, 0, 0)) xf116_24 (sx_calls (N := xm117) (ro := some (.inl ((xpop b : Int), (xpop b : Int)))) (w' := xw0) (k := 0) (n := 0) (by decide) rfl (Nat.le_of_ble_eq_true rfl) (Nat.le_of_ble_eq_true rfl) (Nat.le_of_ble_eq_true rfl) (Nat.le_of_ble_eq_true rfl) (Nat.le_of_ble_eq_true rfl) (Nat.le_of_ble_eq_true rfl) (xbc hb)) ?_
  refine hP.go (r := .inl (28, [(0, .inr (.inr (1, 0))), (1, .inl ((b : Int), (b : Int))), (2, .inl ((s : Int), (s : Int)))], [.inl ((3 : Int), (3 : Int)), .inl ((xpop b : Int), (xpop b : Int))], xw0, 0, 0)) xf116_27 rfl ?_
  refine hP.go (r := .inl (31, [(0, .inr (.inr (1, 0))), (1, .inl ((b : Int), (b : Int))), (2, .inl ((s : Int), (s : Int)))], [], xw0, 0, 0)) xf116_28 (sx_icmp (o := false) (xcle_of.trans (by simp <;> omega))) ?_
  refine hP.go (r := .inl (33, [(0, .inr (.inr (1, 0))), (1, .inl ((b : Int), (b : Int))), (2, .inl ((s : Int), (s : Int)))], [.inl ((-6 : Int), (-6 : Int))], xw0, 0, 0)) xf116_31 rfl ?_
  exact hP.go (r := .inr (some (.inl (-6, -6)), xw0, 0, 0)) xf116_33 rfl hF
def xP_w1 : XW := ((xw0.set 0 (.inl (9, [.inr (.inr (1, 1)), .inr (.inr (1, 2)), .inr (.inr (1, 3)), .inr (.inr (1, 11)), .inr (.inr (1, 12)), .inr (.inr (1, 13)), .inr (.inr (1, 14)), .inr (.inr (1, 16)), .inr (.inr (1, 19)), .inr (.inr (1, 24)), xi 0, xi 0, xi 0, xi 1, xi 1, xi 0, .inr (.inl (some 0)), .inr (.inl (some 0)), .inr (.inl (some 1))]))).set 24 (.inr (0, [xi 0, xi 1, xi 0, xi 0, xi 0, xi 0])))
def xP_sm : XW := [.inl (9, [.inr (.inr (1, 1)), .inr (.inr (1, 2)), .inr (.inr (1, 3)), .inr (.inr (1, 11)), .inr (.inr (1, 12)), .inr (.inr (1, 13)), .inr (.inr (1, 14)), .inr (.inr (1, 16)), .inr (.inr (1, 19)), .inr (.inr (1, 24)), xi 0, xi 0, xi 0, xi 1, xi 0, xi 0, .inr (.inl (some 0)), .inr (.inl (some 0)), .inr (.inl (some 1))]), .inr (3, [.inr (.inr (1, 25)), .inr (.inr (1, 27)), .inr (.inr (1, 29)), .inr (.inr (1, 31)), .inr (.inr (1, 33)), .inr (.inr (1, 35))]), xhd, xhd, xhd, xhd, xhd, xhd, xhd, xhd, xhd, xhd, xhd, xhd, xhd, xhd, xhd, xhd, xhd, xhd, xhd, xhd, xhd, xhd, xhd, .inl (4, [.inr (.inr (1, 26)), xi (-1)]), xhd, .inl (4, [.inr (.inr (1, 28)), xi (-1)]), xhd, .inl (4, [.inr (.inr (1, 30)), xi (-1)]), xhd, .inl (4, [.inr (.inr (1, 32)), xi (-1)]), xhd, .inl (4, [.inr (.inr (1, 34)), xi (-1)]), xhd, .inl (4, [.inr (.inr (1, 36)), xi (-1)]), xhd]
theorem xP_fd : xcf 20 xscA 10 [.inr (.inr (1, 0)), .inl (1, 1)] xw0 = some (some (.inl (-3, -3)), xP_w1) := @of_decide_eq_true _ (xd11 _ _) (show @decide _ (xd11 (xcf 20 xscA 10 [.inr (.inr (1, 0)), .inl (1, 1)] xw0) (some (some (.inl (-3, -3)), xP_w1))) = true by decide +kernel)
theorem xP_57 : xP_w1[57]? = some xc57 := @of_decide_eq_true _ (xd10 _ _) (show @decide _ (xd10 (xP_w1[57]?) (some xc57)) = true by decide +kernel)
theorem xP_le : xwle xP_w1 xP_w1 = true := by decide +kernel
def xfpk (s : Nat) : Bool := match xcf 20 xscA 118 [.inr (.inr (1, 0)), .inl ((s : Int), (s : Int))] xP_sm with
  | some (some (.inl z), w) => decide (z = (1, 1)) && @decide _ (xd5 w xP_sm)
  | _ => false
theorem xP_smm : xmrg xP_sm xw0 = xw0 := @of_decide_eq_true _ (xd5 _ _) (show @decide _ (xd5 (xmrg xP_sm xw0) xw0) = true by decide +kernel)
theorem xfp0 : (List.range 63).all (fun s => xfpk (s + 1)) = true := by decide +kernel
theorem xfp {s : Nat} (h1 : 1 ≤ s) (hs : s < 64) : xcf 20 xscA 118 [.inr (.inr (1, 0)), .inl ((s : Int), (s : Int))] xw0 = some (some (.inl (1, 1)), xw0) := by
  have h := List.all_eq_true.mp xfp0 (s - 1) (List.mem_range.mpr (by omega))
  rw [show s - 1 + 1 = s by omega] at h
  unfold xfpk at h
  split at h
  · rename_i z w hz
    rw [Bool.and_eq_true] at h
    have a1 := of_decide_eq_true h.1
    have a2 := @of_decide_eq_true _ (xd5 _ _) h.2
    subst a1
    subst a2
    have h := xcf_mrg xw0 (N := xm118) rfl rfl hz
    rw [xP_smm] at h
    exact h
  · cases h
set_option maxRecDepth 100000 in
set_option maxHeartbeats 4000000 in
theorem xpc_3 {b s : Nat} (h1 : 1 ≤ b) (hb : b < 64) (hs1 : 1 ≤ s) (hs : s < 64) (hp : xpop b ≤ 3) : XMet l D vwCl (tysX tA) tA ex (xSTX ++ [xscA]) xSV xNW xNF xTs xm116 [.inr (.inr (1, 0)), .inl ((b : Int), (b : Int)), .inl ((s : Int), (s : Int))] xw0 (some (.inl (-3, -3))) (xP_w1) := by
  refine xmet_ofK x_good (x_tysX tA) (x_tysY tA) (x_tysC tA) x_ok (fun j N as w ro w' => xcf_met j N as w ro w') (j := 116) (w2 := xP_w1) (k2 := 0) (n2 := 0) rfl (Nat.le_of_ble_eq_true rfl) ⟨Nat.le_refl _, Nat.le_refl _⟩ (Or.inr rfl) (fun P hP hF => ?_)
  show P (.inl (0, [(0, .inr (.inr (1, 0))), (1, .inl ((b : Int), (b : Int))), (2, .inl ((s : Int), (s : Int)))], [], xw0, 0, 0))
  refine hP.go (r := .inl (1, [(0, .inr (.inr (1, 0))), (1, .inl ((b : Int), (b : Int))), (2, .inl ((s : Int), (s : Int)))], [.inl ((b : Int), (b : Int))], xw0, 0, 0)) xf116_0 rfl ?_
  refine hP.go (r := .inl (2, [(0, .inr (.inr (1, 0))), (1, .inl ((b : Int), (b : Int))), (2, .inl ((s : Int), (s : Int)))], [.inl ((1 : Int), (1 : Int)), .inl ((b : Int), (b : Int))], xw0, 0, 0)) xf116_1 rfl ?_
  refine hP.go (r := .inl (5, [(0, .inr (.inr (1, 0))), (1, .inl ((b : Int), (b : Int))), (2, .inl ((s : Int), (s : Int)))], [], xw0, 0, 0)) xf116_2 (sx_icmp (o := false) (xclt_of.trans (by simp <;> omega))) ?_
  refine hP.go (r := .inl (6, [(0, .inr (.inr (1, 0))), (1, .inl ((b : Int), (b : Int))), (2, .inl ((s : Int), (s : Int)))], [.inl ((b : Int), (b : Int))], xw0, 0, 0)) xf116_5 rfl ?_
  refine hP.go (r := .inl (8, [(0, .inr (.inr (1, 0))), (1, .inl ((b : Int), (b : Int))), (2, .inl ((s : Int), (s : Int)))], [.inl ((63 : Int), (63 : Int)), .inl ((b : Int), (b : Int))], xw0, 0, 0)) xf116_6 rfl ?_
  refine hP.go (r := .inl (11, [(0, .inr (.inr (1, 0))), (1, .inl ((b : Int), (b : Int))), (2, .inl ((s : Int), (s : Int)))], [], xw0, 0, 0)) xf116_8 (sx_icmp (o := false) (xgt_of.trans (by simp <;> omega))) ?_
  refine hP.go (r := .inl (12, [(0, .inr (.inr (1, 0))), (1, .inl ((b : Int), (b : Int))), (2, .inl ((s : Int), (s : Int)))], [.inl ((s : Int), (s : Int))], xw0, 0, 0)) xf116_11 rfl ?_
  refine hP.go (r := .inl (15, [(0, .inr (.inr (1, 0))), (1, .inl ((b : Int), (b : Int))), (2, .inl ((s : Int), (s : Int)))], [], xw0, 0, 0)) xf116_12 (sx_if (o := false) (xclt_of.trans (by simp <;> omega))) ?_
  refine hP.go (r := .inl (16, [(0, .inr (.inr (1, 0))), (1, .inl ((b : Int), (b : Int))), (2, .inl ((s : Int), (s : Int)))], [.inl ((s : Int), (s : Int))], xw0, 0, 0)) xf116_15 rfl ?_
  refine hP.go (r := .inl (18, [(0, .inr (.inr (1, 0))), (1, .inl ((b : Int), (b : Int))), (2, .inl ((s : Int), (s : Int)))], [.inl ((63 : Int), (63 : Int)), .inl ((s : Int), (s : Int))], xw0, 0, 0)) xf116_16 rfl ?_
  refine hP.go (r := .inl (23, [(0, .inr (.inr (1, 0))), (1, .inl ((b : Int), (b : Int))), (2, .inl ((s : Int), (s : Int)))], [], xw0, 0, 0)) xf116_18 (sx_icmp (o := true) (xcle_of.trans (by simp <;> omega))) ?_
  refine hP.go (r := .inl (24, [(0, .inr (.inr (1, 0))), (1, .inl ((b : Int), (b : Int))), (2, .inl ((s : Int), (s : Int)))], [.inl ((b : Int), (b : Int))], xw0, 0, 0)) xf116_23 rfl ?_
  refine hP.go (r := .inl (27, [(0, .inr (.inr (1, 0))), (1, .inl ((b : Int), (b : Int))), (2, .inl ((s : Int), (s : Int)))], [.inl ((xpop b : Int), (xpop b : Int))], xw0, 0, 0)) xf116_24 (sx_calls (N := xm117) (ro := some (.inl ((xpop b : Int), (xpop b : Int)))) (w' := xw0) (k := 0) (n := 0) (by decide) rfl (Nat.le_of_ble_eq_true rfl) (Nat.le_of_ble_eq_true rfl) (Nat.le_of_ble_eq_true rfl) (Nat.le_of_ble_eq_true rfl) (Nat.le_of_ble_eq_true rfl) (Nat.le_of_ble_eq_true rfl) (xbc hb)) ?_
  refine hP.go (r := .inl (28, [(0, .inr (.inr (1, 0))), (1, .inl ((b : Int), (b : Int))), (2, .inl ((s : Int), (s : Int)))], [.inl ((3 : Int), (3 : Int)), .inl ((xpop b : Int), (xpop b : Int))], xw0, 0, 0)) xf116_27 rfl ?_
  refine hP.go (r := .inl (34, [(0, .inr (.inr (1, 0))), (1, .inl ((b : Int), (b : Int))), (2, .inl ((s : Int), (s : Int)))], [], xw0, 0, 0)) xf116_28 (sx_icmp (o := true) (xcle_of.trans (by simp <;> omega))) ?_
  refine hP.go (r := .inl (35, [(0, .inr (.inr (1, 0))), (1, .inl ((b : Int), (b : Int))), (2, .inl ((s : Int), (s : Int)))], [.inr (.inr (1, 0))], xw0, 0, 0)) xf116_34 rfl ?_
  refine hP.go (r := .inl (36, [(0, .inr (.inr (1, 0))), (1, .inl ((b : Int), (b : Int))), (2, .inl ((s : Int), (s : Int)))], [.inl ((s : Int), (s : Int)), .inr (.inr (1, 0))], xw0, 0, 0)) xf116_35 rfl ?_
  refine hP.go (r := .inl (39, [(0, .inr (.inr (1, 0))), (1, .inl ((b : Int), (b : Int))), (2, .inl ((s : Int), (s : Int)))], [.inl ((1 : Int), (1 : Int))], xw0, 0, 0)) xf116_36 (sx_callv (N := xm118) (ro := some (.inl ((1 : Int), (1 : Int)))) (w' := xw0) (k := 0) (n := 0) rfl (Nat.le_of_ble_eq_true rfl) (Nat.le_of_ble_eq_true rfl) (Nat.le_of_ble_eq_true rfl) (Nat.le_of_ble_eq_true rfl) (Nat.le_of_ble_eq_true rfl) (Nat.le_of_ble_eq_true rfl) (xrecv_of xw0_0) (xfp hs1 hs)) ?_
  refine hP.go (r := .inl (40, [(3, .inl ((1 : Int), (1 : Int))), (0, .inr (.inr (1, 0))), (1, .inl ((b : Int), (b : Int))), (2, .inl ((s : Int), (s : Int)))], [], xw0, 0, 0)) xf116_39 rfl ?_
  refine hP.go (r := .inl (41, [(3, .inl ((1 : Int), (1 : Int))), (0, .inr (.inr (1, 0))), (1, .inl ((b : Int), (b : Int))), (2, .inl ((s : Int), (s : Int)))], [.inl ((1 : Int), (1 : Int))], xw0, 0, 0)) xf116_40 rfl ?_
  refine hP.go (r := .inl (44, [(3, .inl ((1 : Int), (1 : Int))), (0, .inr (.inr (1, 0))), (1, .inl ((b : Int), (b : Int))), (2, .inl ((s : Int), (s : Int)))], [], xw0, 0, 0)) xf116_41 (sx_if (o := false) rfl) ?_
  refine hP.go (r := .inl (45, [(3, .inl ((1 : Int), (1 : Int))), (0, .inr (.inr (1, 0))), (1, .inl ((b : Int), (b : Int))), (2, .inl ((s : Int), (s : Int)))], [.inr (.inr (1, 0))], xw0, 0, 0)) xf116_44 rfl ?_
  refine hP.go (r := .inl (46, [(3, .inl ((1 : Int), (1 : Int))), (0, .inr (.inr (1, 0))), (1, .inl ((b : Int), (b : Int))), (2, .inl ((s : Int), (s : Int)))], [.inl ((1 : Int), (1 : Int)), .inr (.inr (1, 0))], xw0, 0, 0)) xf116_45 rfl ?_
  refine hP.go (r := .inl (49, [(3, .inl ((1 : Int), (1 : Int))), (0, .inr (.inr (1, 0))), (1, .inl ((b : Int), (b : Int))), (2, .inl ((s : Int), (s : Int)))], [.inl ((-3 : Int), (-3 : Int))], xP_w1, 0, 0)) xf116_46 (sx_callv (N := xm10) (ro := some (.inl ((-3 : Int), (-3 : Int)))) (w' := xP_w1) (k := 0) (n := 0) rfl (Nat.le_of_ble_eq_true rfl) (Nat.le_of_ble_eq_true rfl) (Nat.le_of_ble_eq_true rfl) (Nat.le_of_ble_eq_true rfl) (Nat.le_of_ble_eq_true rfl) (Nat.le_of_ble_eq_true rfl) (xrecv_of xw0_0) (xP_fd)) ?_
  exact hP.go (r := .inr (some (.inl (-3, -3)), xP_w1, 0, 0)) xf116_49 rfl hF
end XPL
