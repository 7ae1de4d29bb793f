/-! ===== the class's side of time, by steps ===== -/
theorem xf26_0 : xfetch (xm_t xm26) 0 = some (.lload_n 0, 0, 0, 0) := rfl
theorem xf26_1 : xfetch (xm_t xm26) 1 = some (.iload_n 2, 0, 0, 0) := rfl
theorem xf26_2 : xfetch (xm_t xm26) 2 = some (.lushr, 0, 0, 0) := rfl
theorem xf26_3 : xfetch (xm_t xm26) 3 = some (.lconst 1, 0, 0, 1) := rfl
theorem xf26_4 : xfetch (xm_t xm26) 4 = some (.land, 0, 0, 0) := rfl
theorem xf26_5 : xfetch (xm_t xm26) 5 = some (.lconst 1, 0, 0, 1) := rfl
theorem xf26_6 : xfetch (xm_t xm26) 6 = some (.lcmp, 0, 0, 0) := rfl
theorem xf26_7 : xfetch (xm_t xm26) 7 = some (.ifCond .ne 7, 14, 0, 0) := rfl
theorem xf26_10 : xfetch (xm_t xm26) 10 = some (.iconst 1, 0, 0, 1) := rfl
theorem xf26_11 : xfetch (xm_t xm26) 11 = some (.goto 4, 15, 0, 0) := rfl
theorem xf26_14 : xfetch (xm_t xm26) 14 = some (.iconst 0, 0, 0, 0) := rfl
theorem xf26_15 : xfetch (xm_t xm26) 15 = some (.ireturn, 0, 0, 0) := rfl
theorem xf81_0 : xfetch (xm_t xm81) 0 = some (.aload_n 0, 0, 0, 0) := rfl
theorem xf81_1 : xfetch (xm_t xm81) 1 = some (.getfield 31, 6, 5, 0) := rfl
theorem xf81_4 : xfetch (xm_t xm81) 4 = some (.iload_n 1, 0, 0, 0) := rfl
theorem xf81_5 : xfetch (xm_t xm81) 5 = some (.invokevirtual 75, 62, 2, 0) := rfl
theorem xf81_8 : xfetch (xm_t xm81) 8 = some (.iconst 0, 0, 0, 0) := rfl
theorem xf81_9 : xfetch (xm_t xm81) 9 = some (.istore 4, 0, 0, 0) := rfl
theorem xf81_11 : xfetch (xm_t xm81) 11 = some (.iload 4, 0, 0, 0) := rfl
theorem xf81_13 : xfetch (xm_t xm81) 13 = some (.iload_n 3, 0, 0, 0) := rfl
theorem xf81_14 : xfetch (xm_t xm81) 14 = some (.if_icmp .gt 36, 50, 0, 0) := rfl
theorem xf81_17 : xfetch (xm_t xm81) 17 = some (.aload_n 0, 0, 0, 0) := rfl
theorem xf81_18 : xfetch (xm_t xm81) 18 = some (.getfield 31, 6, 5, 0) := rfl
theorem xf81_21 : xfetch (xm_t xm81) 21 = some (.getfield 79, 7, 0, 0) := rfl
theorem xf81_24 : xfetch (xm_t xm81) 24 = some (.iconst 0, 0, 0, 0) := rfl
theorem xf81_25 : xfetch (xm_t xm81) 25 = some (.laload, 0, 0, 0) := rfl
theorem xf81_26 : xfetch (xm_t xm81) 26 = some (.iload_n 2, 0, 0, 0) := rfl
theorem xf81_27 : xfetch (xm_t xm81) 27 = some (.invokestatic 41, 26, 2, 0) := rfl
theorem xf81_30 : xfetch (xm_t xm81) 30 = some (.ifCond .eq 6, 36, 0, 0) := rfl
theorem xf81_33 : xfetch (xm_t xm81) 33 = some (.iload 4, 0, 0, 0) := rfl
theorem xf81_35 : xfetch (xm_t xm81) 35 = some (.ireturn, 0, 0, 0) := rfl
theorem xf81_36 : xfetch (xm_t xm81) 36 = some (.aload_n 0, 0, 0, 0) := rfl
theorem xf81_37 : xfetch (xm_t xm81) 37 = some (.getfield 31, 6, 5, 0) := rfl
theorem xf81_40 : xfetch (xm_t xm81) 40 = some (.aload_n 0, 0, 0, 0) := rfl
theorem xf81_41 : xfetch (xm_t xm81) 41 = some (.invokevirtual 82, 63, 2, 0) := rfl
theorem xf81_44 : xfetch (xm_t xm81) 44 = some (.iinc 4 1, 0, 0, 1) := rfl
theorem xf81_47 : xfetch (xm_t xm81) 47 = some (.goto (-36), 11, 0, 0) := rfl
theorem xf81_50 : xfetch (xm_t xm81) 50 = some (.bipush (-9), 0, 0, (-9)) := rfl
theorem xf81_52 : xfetch (xm_t xm81) 52 = some (.ireturn, 0, 0, 0) := rfl
theorem xf79_0 : xfetch (xm_t xm79) 0 = some (.aload_n 0, 0, 0, 0) := rfl
theorem xf79_1 : xfetch (xm_t xm79) 1 = some (.iload_n 1, 0, 0, 0) := rfl
theorem xf79_2 : xfetch (xm_t xm79) 2 = some (.invokevirtual 251, 80, 2, 0) := rfl
theorem xf79_5 : xfetch (xm_t xm79) 5 = some (.ifCond .eq 11, 16, 0, 0) := rfl
theorem xf79_8 : xfetch (xm_t xm79) 8 = some (.aload_n 0, 0, 0, 0) := rfl
theorem xf79_9 : xfetch (xm_t xm79) 9 = some (.iload_n 2, 0, 0, 0) := rfl
theorem xf79_10 : xfetch (xm_t xm79) 10 = some (.invokevirtual 251, 80, 2, 0) := rfl
theorem xf79_13 : xfetch (xm_t xm79) 13 = some (.ifCond .ne 5, 18, 0, 0) := rfl
theorem xf79_16 : xfetch (xm_t xm79) 16 = some (.iconst (-1), 0, 0, (-1)) := rfl
theorem xf79_17 : xfetch (xm_t xm79) 17 = some (.ireturn, 0, 0, 0) := rfl
theorem xf79_18 : xfetch (xm_t xm79) 18 = some (.aload_n 0, 0, 0, 0) := rfl
theorem xf79_19 : xfetch (xm_t xm79) 19 = some (.getfield 21, 9, 2, 0) := rfl
theorem xf79_22 : xfetch (xm_t xm79) 22 = some (.iload_n 1, 0, 0, 0) := rfl
theorem xf79_23 : xfetch (xm_t xm79) 23 = some (.iload_n 2, 0, 0, 0) := rfl
theorem xf79_24 : xfetch (xm_t xm79) 24 = some (.sipush 256, 0, 0, 256) := rfl
theorem xf79_27 : xfetch (xm_t xm79) 27 = some (.invokevirtual 254, 81, 4, 0) := rfl
theorem xf79_30 : xfetch (xm_t xm79) 30 = some (.istore_n 3, 0, 0, 0) := rfl
theorem xf79_31 : xfetch (xm_t xm79) 31 = some (.iload_n 3, 0, 0, 0) := rfl
theorem xf79_32 : xfetch (xm_t xm79) 32 = some (.bipush (-9), 0, 0, (-9)) := rfl
theorem xf79_34 : xfetch (xm_t xm79) 34 = some (.if_icmp .ne 11, 45, 0, 0) := rfl
theorem xf79_37 : xfetch (xm_t xm79) 37 = some (.aload_n 0, 0, 0, 0) := rfl
theorem xf79_38 : xfetch (xm_t xm79) 38 = some (.iconst 1, 0, 0, 1) := rfl
theorem xf79_39 : xfetch (xm_t xm79) 39 = some (.invokevirtual 82, 10, 2, 0) := rfl
theorem xf79_42 : xfetch (xm_t xm79) 42 = some (.goto 4, 46, 0, 0) := rfl
theorem xf79_45 : xfetch (xm_t xm79) 45 = some (.iload_n 3, 0, 0, 0) := rfl
theorem xf79_46 : xfetch (xm_t xm79) 46 = some (.ireturn, 0, 0, 0) := rfl
section XTC
variable {l : Launch} {D : va_G} {tA : Nat → ClassId} {ex : List Nat}
set_option maxRecDepth 100000 in
theorem xhb_met0 {F b : Int} {w : XW} (h : xhbv F b = some 0) : XMet l D vwCl (tysX tA) tA ex (xSTX ++ [xscA]) xSV xNW xNF xTs xm26 [.inr (.inl (some F)), .inl (b, b)] w (some (.inl (0, 0))) w :=
  xmet_ofK x_good (x_tysX tA) (x_tysY tA) (x_tysC tA) x_ok (fun j N as w ro w' => xcf_met j N as w ro w') (j := 26) (w2 := w) (k2 := 0) (n2 := 0) rfl (Nat.le_of_ble_eq_true rfl) ⟨Nat.le_refl _, Nat.le_refl _⟩ (Or.inr rfl) (fun P hP hF => by
    show P (.inl (0, [(0, .inr (.inl (some F))), (2, .inl (b, b))], [], w, 0, 0))
    refine hP.go (r := .inl (1, [(0, .inr (.inl (some F))), (2, .inl (b, b))], [.inr (.inl (some F))], w, 0, 0)) xf26_0 rfl ?_
    refine hP.go (r := .inl (2, [(0, .inr (.inl (some F))), (2, .inl (b, b))], [.inl (b, b), .inr (.inl (some F))], w, 0, 0)) xf26_1 rfl ?_
    refine hP.go (r := .inl (3, [(0, .inr (.inl (some F))), (2, .inl (b, b))], [.inr (.inl (xls (fun x y => (x.toUInt64 >>> (y.toInt64.toUInt64 &&& Int64.toUInt64 63)).toInt64) (some F) (b, b)))], w, 0, 0)) xf26_2 rfl ?_
    refine hP.go (r := .inl (4, [(0, .inr (.inl (some F))), (2, .inl (b, b))], [.inr (.inl (some 1)), .inr (.inl (xls (fun x y => (x.toUInt64 >>> (y.toInt64.toUInt64 &&& Int64.toUInt64 63)).toInt64) (some F) (b, b)))], w, 0, 0)) xf26_3 rfl ?_
    refine hP.go (r := .inl (5, [(0, .inr (.inl (some F))), (2, .inl (b, b))], [.inr (.inl (some 0))], w, 0, 0)) xf26_4 (by simp only [xins, xh_lbin]; rw [show xl2 (fun x y => x &&& y) (xls (fun x y => (x.toUInt64 >>> (y.toInt64.toUInt64 &&& Int64.toUInt64 63)).toInt64) (some F) (b, b)) (some 1) = some 0 from h]) ?_
    refine hP.go (r := .inl (6, [(0, .inr (.inl (some F))), (2, .inl (b, b))], [.inr (.inl (some 1)), .inr (.inl (some 0))], w, 0, 0)) xf26_5 rfl ?_
    refine hP.go (r := .inl (7, [(0, .inr (.inl (some F))), (2, .inl (b, b))], [.inl (-1, -1)], w, 0, 0)) xf26_6 rfl ?_
    refine hP.go (r := .inl (14, [(0, .inr (.inl (some F))), (2, .inl (b, b))], [], w, 0, 0)) xf26_7 rfl ?_
    refine hP.go (r := .inl (15, [(0, .inr (.inl (some F))), (2, .inl (b, b))], [.inl (0, 0)], w, 0, 0)) xf26_14 rfl ?_
    exact hP.go (r := .inr (some (.inl (0, 0)), w, 0, 0)) xf26_15 rfl hF)
set_option maxRecDepth 100000 in
theorem xhb_met1 {F b : Int} {w : XW} (h : xhbv F b = some 1) : XMet l D vwCl (tysX tA) tA ex (xSTX ++ [xscA]) xSV xNW xNF xTs xm26 [.inr (.inl (some F)), .inl (b, b)] w (some (.inl (1, 1))) w :=
  xmet_ofK x_good (x_tysX tA) (x_tysY tA) (x_tysC tA) x_ok (fun j N as w ro w' => xcf_met j N as w ro w') (j := 26) (w2 := w) (k2 := 0) (n2 := 0) rfl (Nat.le_of_ble_eq_true rfl) ⟨Nat.le_refl _, Nat.le_refl _⟩ (Or.inr rfl) (fun P hP hF => by
    show P (.inl (0, [(0, .inr (.inl (some F))), (2, .inl (b, b))], [], w, 0, 0))
    refine hP.go (r := .inl (1, [(0, .inr (.inl (some F))), (2, .inl (b, b))], [.inr (.inl (some F))], w, 0, 0)) xf26_0 rfl ?_
    refine hP.go (r := .inl (2, [(0, .inr (.inl (some F))), (2, .inl (b, b))], [.inl (b, b), .inr (.inl (some F))], w, 0, 0)) xf26_1 rfl ?_
    refine hP.go (r := .inl (3, [(0, .inr (.inl (some F))), (2, .inl (b, b))], [.inr (.inl (xls (fun x y => (x.toUInt64 >>> (y.toInt64.toUInt64 &&& Int64.toUInt64 63)).toInt64) (some F) (b, b)))], w, 0, 0)) xf26_2 rfl ?_
    refine hP.go (r := .inl (4, [(0, .inr (.inl (some F))), (2, .inl (b, b))], [.inr (.inl (some 1)), .inr (.inl (xls (fun x y => (x.toUInt64 >>> (y.toInt64.toUInt64 &&& Int64.toUInt64 63)).toInt64) (some F) (b, b)))], w, 0, 0)) xf26_3 rfl ?_
    refine hP.go (r := .inl (5, [(0, .inr (.inl (some F))), (2, .inl (b, b))], [.inr (.inl (some 1))], w, 0, 0)) xf26_4 (by simp only [xins, xh_lbin]; rw [show xl2 (fun x y => x &&& y) (xls (fun x y => (x.toUInt64 >>> (y.toInt64.toUInt64 &&& Int64.toUInt64 63)).toInt64) (some F) (b, b)) (some 1) = some 1 from h]) ?_
    refine hP.go (r := .inl (6, [(0, .inr (.inl (some F))), (2, .inl (b, b))], [.inr (.inl (some 1)), .inr (.inl (some 1))], w, 0, 0)) xf26_5 rfl ?_
    refine hP.go (r := .inl (7, [(0, .inr (.inl (some F))), (2, .inl (b, b))], [.inl (0, 0)], w, 0, 0)) xf26_6 rfl ?_
    refine hP.go (r := .inl (10, [(0, .inr (.inl (some F))), (2, .inl (b, b))], [], w, 0, 0)) xf26_7 rfl ?_
    refine hP.go (r := .inl (11, [(0, .inr (.inl (some F))), (2, .inl (b, b))], [.inl (1, 1)], w, 0, 0)) xf26_10 rfl ?_
    refine hP.go (r := .inl (15, [(0, .inr (.inl (some F))), (2, .inl (b, b))], [.inl (1, 1)], w, 0, 0)) xf26_11 rfl ?_
    exact hP.go (r := .inr (some (.inl (1, 1)), w, 0, 0)) xf26_15 rfl hF)
theorem xv_w3 {a t : Nat} : (xv_w a t)[3]? = some xc3 := rfl
theorem xv_w9 {a t : Nat} : (xv_w a t)[9]? = some (xwvc a t) := rfl
theorem xv_w10 {a t : Nat} : (xv_w a t)[10]? = some (xfrc a t) := rfl
set_option maxRecDepth 100000 in
set_option maxHeartbeats 4000000 in
theorem xsd_loop {P : XR → Prop} (hP : XCl (xSt xscA xm81) (xJm l D tA ex xscA xm81) P) {a b : Nat} (ha : a < 64) (hb : b < 64) (hF : P (.inr (some (.inl ((xdist a b : Int), (xdist a b : Int))), xv_w a (xdist a b), 0, 0))) : ∀ (d t : Nat), t + d = xdist a b → P (.inl (11, [(4, .inl ((t : Int), (t : Int))), (0, .inr (.inr (1, 3))), (1, .inl ((a : Int), (a : Int))), (2, .inl ((b : Int), (b : Int))), (3, .inl ((256 : Int), (256 : Int)))], [], xv_w a t, 0, 0)) := fun d => by
  induction d with
  | zero =>
    intro t ht
    have hd := xdist_lt ha hb
    have hv : xhbv (xF a t) (b : Int) = some 1 := by
      rw [xhb2 hb (xhb1 a ha t (by omega)), if_pos (by omega)]
    refine hP.go (r := .inl (13, [(4, .inl ((t : Int), (t : Int))), (0, .inr (.inr (1, 3))), (1, .inl ((a : Int), (a : Int))), (2, .inl ((b : Int), (b : Int))), (3, .inl ((256 : Int), (256 : Int)))], [.inl ((t : Int), (t : Int))], xv_w a t, 0, 0)) xf81_11 rfl ?_
    refine hP.go (r := .inl (14, [(4, .inl ((t : Int), (t : Int))), (0, .inr (.inr (1, 3))), (1, .inl ((a : Int), (a : Int))), (2, .inl ((b : Int), (b : Int))), (3, .inl ((256 : Int), (256 : Int)))], [.inl ((256 : Int), (256 : Int)), .inl ((t : Int), (t : Int))], xv_w a t, 0, 0)) xf81_13 rfl ?_
    refine hP.go (r := .inl (17, [(4, .inl ((t : Int), (t : Int))), (0, .inr (.inr (1, 3))), (1, .inl ((a : Int), (a : Int))), (2, .inl ((b : Int), (b : Int))), (3, .inl ((256 : Int), (256 : Int)))], [], xv_w a t, 0, 0)) xf81_14 (sx_icmp (o := false) (xgt_of.trans (by simp <;> omega))) ?_
    refine hP.go (r := .inl (18, [(4, .inl ((t : Int), (t : Int))), (0, .inr (.inr (1, 3))), (1, .inl ((a : Int), (a : Int))), (2, .inl ((b : Int), (b : Int))), (3, .inl ((256 : Int), (256 : Int)))], [.inr (.inr (1, 3))], xv_w a t, 0, 0)) xf81_17 rfl ?_
    refine hP.go (r := .inl (21, [(4, .inl ((t : Int), (t : Int))), (0, .inr (.inr (1, 3))), (1, .inl ((a : Int), (a : Int))), (2, .inl ((b : Int), (b : Int))), (3, .inl ((256 : Int), (256 : Int)))], [.inr (.inr (1, 9))], xv_w a t, 0, 0)) xf81_18 (sx_get xv_w3 rfl) ?_
    refine hP.go (r := .inl (24, [(4, .inl ((t : Int), (t : Int))), (0, .inr (.inr (1, 3))), (1, .inl ((a : Int), (a : Int))), (2, .inl ((b : Int), (b : Int))), (3, .inl ((256 : Int), (256 : Int)))], [.inr (.inr (1, 10))], xv_w a t, 0, 0)) xf81_21 (sx_get xv_w9 rfl) ?_
    refine hP.go (r := .inl (25, [(4, .inl ((t : Int), (t : Int))), (0, .inr (.inr (1, 3))), (1, .inl ((a : Int), (a : Int))), (2, .inl ((b : Int), (b : Int))), (3, .inl ((256 : Int), (256 : Int)))], [.inl ((0 : Int), (0 : Int)), .inr (.inr (1, 10))], xv_w a t, 0, 0)) xf81_24 rfl ?_
    refine hP.go (r := .inl (26, [(4, .inl ((t : Int), (t : Int))), (0, .inr (.inr (1, 3))), (1, .inl ((a : Int), (a : Int))), (2, .inl ((b : Int), (b : Int))), (3, .inl ((256 : Int), (256 : Int)))], [.inr (.inl (some (xF a t)))], xv_w a t, 0, 0)) xf81_25 (sx_lald xv_w10 rfl) ?_
    refine hP.go (r := .inl (27, [(4, .inl ((t : Int), (t : Int))), (0, .inr (.inr (1, 3))), (1, .inl ((a : Int), (a : Int))), (2, .inl ((b : Int), (b : Int))), (3, .inl ((256 : Int), (256 : Int)))], [.inl ((b : Int), (b : Int)), .inr (.inl (some (xF a t)))], xv_w a t, 0, 0)) xf81_26 rfl ?_
    refine hP.2.2.1 _ (30, [(4, .inl ((t : Int), (t : Int))), (0, .inr (.inr (1, 3))), (1, .inl ((a : Int), (a : Int))), (2, .inl ((b : Int), (b : Int))), (3, .inl ((256 : Int), (256 : Int)))], [.inl (1, 1)], xv_w a t, 0, 0) ⟨.invokestatic 41, 26, 2, 0, xm26, some (.inl (1, 1)), xv_w a t, xf81_27, rfl, xhb_met1 hv, fun cf hc => sx_calls (N := xm26) (by decide) rfl (Nat.le_of_ble_eq_true rfl) (Nat.le_of_ble_eq_true rfl) (Nat.le_of_ble_eq_true rfl) (Nat.le_of_ble_eq_true rfl) (Nat.le_of_ble_eq_true rfl) (Nat.le_of_ble_eq_true rfl) hc⟩ ?_
    refine hP.go (r := .inl (33, [(4, .inl ((t : Int), (t : Int))), (0, .inr (.inr (1, 3))), (1, .inl ((a : Int), (a : Int))), (2, .inl ((b : Int), (b : Int))), (3, .inl ((256 : Int), (256 : Int)))], [], xv_w a t, 0, 0)) xf81_30 (sx_if (o := false) rfl) ?_
    refine hP.go (r := .inl (35, [(4, .inl ((t : Int), (t : Int))), (0, .inr (.inr (1, 3))), (1, .inl ((a : Int), (a : Int))), (2, .inl ((b : Int), (b : Int))), (3, .inl ((256 : Int), (256 : Int)))], [.inl ((t : Int), (t : Int))], xv_w a t, 0, 0)) xf81_33 rfl ?_
    have e : t = xdist a b := by omega
    subst e
    exact hP.go (r := .inr (some (.inl ((xdist a b : Int), (xdist a b : Int))), xv_w a (xdist a b), 0, 0)) xf81_35 rfl hF
  | succ d ih =>
    intro t ht
    have hd := xdist_lt ha hb
    have hv : xhbv (xF a t) (b : Int) = some 0 := by
      rw [xhb2 hb (xhb1 a ha t (by omega)), if_neg (by omega)]
    refine hP.go (r := .inl (13, [(4, .inl ((t : Int), (t : Int))), (0, .inr (.inr (1, 3))), (1, .inl ((a : Int), (a : Int))), (2, .inl ((b : Int), (b : Int))), (3, .inl ((256 : Int), (256 : Int)))], [.inl ((t : Int), (t : Int))], xv_w a t, 0, 0)) xf81_11 rfl ?_
    refine hP.go (r := .inl (14, [(4, .inl ((t : Int), (t : Int))), (0, .inr (.inr (1, 3))), (1, .inl ((a : Int), (a : Int))), (2, .inl ((b : Int), (b : Int))), (3, .inl ((256 : Int), (256 : Int)))], [.inl ((256 : Int), (256 : Int)), .inl ((t : Int), (t : Int))], xv_w a t, 0, 0)) xf81_13 rfl ?_
    refine hP.go (r := .inl (17, [(4, .inl ((t : Int), (t : Int))), (0, .inr (.inr (1, 3))), (1, .inl ((a : Int), (a : Int))), (2, .inl ((b : Int), (b : Int))), (3, .inl ((256 : Int), (256 : Int)))], [], xv_w a t, 0, 0)) xf81_14 (sx_icmp (o := false) (xgt_of.trans (by simp <;> omega))) ?_
    refine hP.go (r := .inl (18, [(4, .inl ((t : Int), (t : Int))), (0, .inr (.inr (1, 3))), (1, .inl ((a : Int), (a : Int))), (2, .inl ((b : Int), (b : Int))), (3, .inl ((256 : Int), (256 : Int)))], [.inr (.inr (1, 3))], xv_w a t, 0, 0)) xf81_17 rfl ?_
    refine hP.go (r := .inl (21, [(4, .inl ((t : Int), (t : Int))), (0, .inr (.inr (1, 3))), (1, .inl ((a : Int), (a : Int))), (2, .inl ((b : Int), (b : Int))), (3, .inl ((256 : Int), (256 : Int)))], [.inr (.inr (1, 9))], xv_w a t, 0, 0)) xf81_18 (sx_get xv_w3 rfl) ?_
    refine hP.go (r := .inl (24, [(4, .inl ((t : Int), (t : Int))), (0, .inr (.inr (1, 3))), (1, .inl ((a : Int), (a : Int))), (2, .inl ((b : Int), (b : Int))), (3, .inl ((256 : Int), (256 : Int)))], [.inr (.inr (1, 10))], xv_w a t, 0, 0)) xf81_21 (sx_get xv_w9 rfl) ?_
    refine hP.go (r := .inl (25, [(4, .inl ((t : Int), (t : Int))), (0, .inr (.inr (1, 3))), (1, .inl ((a : Int), (a : Int))), (2, .inl ((b : Int), (b : Int))), (3, .inl ((256 : Int), (256 : Int)))], [.inl ((0 : Int), (0 : Int)), .inr (.inr (1, 10))], xv_w a t, 0, 0)) xf81_24 rfl ?_
    refine hP.go (r := .inl (26, [(4, .inl ((t : Int), (t : Int))), (0, .inr (.inr (1, 3))), (1, .inl ((a : Int), (a : Int))), (2, .inl ((b : Int), (b : Int))), (3, .inl ((256 : Int), (256 : Int)))], [.inr (.inl (some (xF a t)))], xv_w a t, 0, 0)) xf81_25 (sx_lald xv_w10 rfl) ?_
    refine hP.go (r := .inl (27, [(4, .inl ((t : Int), (t : Int))), (0, .inr (.inr (1, 3))), (1, .inl ((a : Int), (a : Int))), (2, .inl ((b : Int), (b : Int))), (3, .inl ((256 : Int), (256 : Int)))], [.inl ((b : Int), (b : Int)), .inr (.inl (some (xF a t)))], xv_w a t, 0, 0)) xf81_26 rfl ?_
    refine hP.2.2.1 _ (30, [(4, .inl ((t : Int), (t : Int))), (0, .inr (.inr (1, 3))), (1, .inl ((a : Int), (a : Int))), (2, .inl ((b : Int), (b : Int))), (3, .inl ((256 : Int), (256 : Int)))], [.inl (0, 0)], xv_w a t, 0, 0) ⟨.invokestatic 41, 26, 2, 0, xm26, some (.inl (0, 0)), xv_w a t, xf81_27, rfl, xhb_met0 hv, fun cf hc => sx_calls (N := xm26) (by decide) rfl (Nat.le_of_ble_eq_true rfl) (Nat.le_of_ble_eq_true rfl) (Nat.le_of_ble_eq_true rfl) (Nat.le_of_ble_eq_true rfl) (Nat.le_of_ble_eq_true rfl) (Nat.le_of_ble_eq_true rfl) hc⟩ ?_
    refine hP.go (r := .inl (36, [(4, .inl ((t : Int), (t : Int))), (0, .inr (.inr (1, 3))), (1, .inl ((a : Int), (a : Int))), (2, .inl ((b : Int), (b : Int))), (3, .inl ((256 : Int), (256 : Int)))], [], xv_w a t, 0, 0)) xf81_30 (sx_if (o := true) rfl) ?_
    refine hP.go (r := .inl (37, [(4, .inl ((t : Int), (t : Int))), (0, .inr (.inr (1, 3))), (1, .inl ((a : Int), (a : Int))), (2, .inl ((b : Int), (b : Int))), (3, .inl ((256 : Int), (256 : Int)))], [.inr (.inr (1, 3))], xv_w a t, 0, 0)) xf81_36 rfl ?_
    refine hP.go (r := .inl (40, [(4, .inl ((t : Int), (t : Int))), (0, .inr (.inr (1, 3))), (1, .inl ((a : Int), (a : Int))), (2, .inl ((b : Int), (b : Int))), (3, .inl ((256 : Int), (256 : Int)))], [.inr (.inr (1, 9))], xv_w a t, 0, 0)) xf81_37 (sx_get xv_w3 rfl) ?_
    refine hP.go (r := .inl (41, [(4, .inl ((t : Int), (t : Int))), (0, .inr (.inr (1, 3))), (1, .inl ((a : Int), (a : Int))), (2, .inl ((b : Int), (b : Int))), (3, .inl ((256 : Int), (256 : Int)))], [.inr (.inr (1, 3)), .inr (.inr (1, 9))], xv_w a t, 0, 0)) xf81_40 rfl ?_
    refine hP.go (r := .inl (44, [(4, .inl ((t : Int), (t : Int))), (0, .inr (.inr (1, 3))), (1, .inl ((a : Int), (a : Int))), (2, .inl ((b : Int), (b : Int))), (3, .inl ((256 : Int), (256 : Int)))], [], xv_w a (t + 1), 0, 0)) xf81_41 (sx_callv (N := xm63) (ro := none) (w' := xv_w a (t + 1)) (k := 0) (n := 0) rfl (Nat.le_of_ble_eq_true rfl) (Nat.le_of_ble_eq_true rfl) (Nat.le_of_ble_eq_true rfl) (Nat.le_of_ble_eq_true rfl) (Nat.le_of_ble_eq_true rfl) (Nat.le_of_ble_eq_true rfl) (xrecv_of xv_w9) (xsp ha (by omega))) ?_
    refine hP.go (r := .inl (47, [(4, .inl ((t : Int) + 1, (t : Int) + 1)), (0, .inr (.inr (1, 3))), (1, .inl ((a : Int), (a : Int))), (2, .inl ((b : Int), (b : Int))), (3, .inl ((256 : Int), (256 : Int)))], [], xv_w a (t + 1), 0, 0)) xf81_44 (sx_iinc rfl (Nat.le_of_ble_eq_true rfl) (by dsimp only; omega)) ?_
    refine hP.go (r := .inl (11, [(4, .inl ((t : Int) + 1, (t : Int) + 1)), (0, .inr (.inr (1, 3))), (1, .inl ((a : Int), (a : Int))), (2, .inl ((b : Int), (b : Int))), (3, .inl ((256 : Int), (256 : Int)))], [], xv_w a (t + 1), 0, 0)) xf81_47 rfl ?_
    have h := ih (t + 1) (by omega)
    rw [show ((t + 1 : Nat) : Int) = (t : Int) + 1 from rfl] at h
    exact h
theorem xw0_3 : xw0[3]? = some xc3 := rfl
theorem xw0_9 : xw0[9]? = some (.inl (7, [.inr (.inr (1, 10)), .inr (.inl (some 0))])) := rfl
theorem xw0_0 : xw0[0]? = some xc0 := rfl
set_option maxRecDepth 100000 in
set_option maxHeartbeats 4000000 in
theorem xsd_met {a b : Nat} (ha : a < 64) (hb : b < 64) : XMet l D vwCl (tysX tA) tA ex (xSTX ++ [xscA]) xSV xNW xNF xTs xm81 [.inr (.inr (1, 3)), .inl ((a : Int), (a : Int)), .inl ((b : Int), (b : Int)), .inl (256, 256)] xw0 (some (.inl ((xdist a b : Int), (xdist a b : Int)))) (xv_w a (xdist a b)) := by
  refine xmet_ofK x_good (x_tysX tA) (x_tysY tA) (x_tysC tA) x_ok (fun j N as w ro w' => xcf_met j N as w ro w') (j := 81) (w2 := xv_w a (xdist a b)) (k2 := 0) (n2 := 0) rfl (Nat.le_of_ble_eq_true rfl) ⟨Nat.le_refl _, Nat.le_refl _⟩ (Or.inr rfl) (fun P hP hF => ?_)
  show P (.inl (0, [(0, .inr (.inr (1, 3))), (1, .inl ((a : Int), (a : Int))), (2, .inl ((b : Int), (b : Int))), (3, .inl ((256 : Int), (256 : Int)))], [], xw0, 0, 0))
  refine hP.go (r := .inl (1, [(0, .inr (.inr (1, 3))), (1, .inl ((a : Int), (a : Int))), (2, .inl ((b : Int), (b : Int))), (3, .inl ((256 : Int), (256 : Int)))], [.inr (.inr (1, 3))], xw0, 0, 0)) xf81_0 rfl ?_
  refine hP.go (r := .inl (4, [(0, .inr (.inr (1, 3))), (1, .inl ((a : Int), (a : Int))), (2, .inl ((b : Int), (b : Int))), (3, .inl ((256 : Int), (256 : Int)))], [.inr (.inr (1, 9))], xw0, 0, 0)) xf81_1 (sx_get xw0_3 rfl) ?_
  refine hP.go (r := .inl (5, [(0, .inr (.inr (1, 3))), (1, .inl ((a : Int), (a : Int))), (2, .inl ((b : Int), (b : Int))), (3, .inl ((256 : Int), (256 : Int)))], [.inl ((a : Int), (a : Int)), .inr (.inr (1, 9))], xw0, 0, 0)) xf81_4 rfl ?_
  refine hP.go (r := .inl (8, [(0, .inr (.inr (1, 3))), (1, .inl ((a : Int), (a : Int))), (2, .inl ((b : Int), (b : Int))), (3, .inl ((256 : Int), (256 : Int)))], [], xv_w a 0, 0, 0)) xf81_5 (sx_callv (N := xm62) (ro := none) (w' := xv_w a 0) (k := 0) (n := 0) rfl (Nat.le_of_ble_eq_true rfl) (Nat.le_of_ble_eq_true rfl) (Nat.le_of_ble_eq_true rfl) (Nat.le_of_ble_eq_true rfl) (Nat.le_of_ble_eq_true rfl) (Nat.le_of_ble_eq_true rfl) (xrecv_of xw0_9) (xbg ha)) ?_
  refine hP.go (r := .inl (9, [(0, .inr (.inr (1, 3))), (1, .inl ((a : Int), (a : Int))), (2, .inl ((b : Int), (b : Int))), (3, .inl ((256 : Int), (256 : Int)))], [.inl ((0 : Int), (0 : Int))], xv_w a 0, 0, 0)) xf81_8 rfl ?_
  refine hP.go (r := .inl (11, [(4, .inl ((0 : Int), (0 : Int))), (0, .inr (.inr (1, 3))), (1, .inl ((a : Int), (a : Int))), (2, .inl ((b : Int), (b : Int))), (3, .inl ((256 : Int), (256 : Int)))], [], xv_w a 0, 0, 0)) xf81_9 rfl ?_
  exact xsd_loop hP ha hb hF (xdist a b) 0 (Nat.zero_add _)
def xock (a : Nat) : Bool := @decide _ (xd11 (xcf 20 xscA 80 [.inr (.inr (1, 0)), .inl ((a : Int), (a : Int))] [xc0, xhd, xhd, xc3]) (some (some (.inl (1, 1)), [xc0, xhd, xhd, xc3])))
theorem xoc0 : (List.range 64).all xock = true := by decide +kernel
theorem xoc1 : xmrg [xc0, xhd, xhd, xc3] xw0 = xw0 := @of_decide_eq_true _ (xd5 _ _) (show @decide _ (xd5 (xmrg [xc0, xhd, xhd, xc3] xw0) xw0) = true by decide +kernel)
theorem xoc {a : Nat} (ha : a < 64) : xcf 20 xscA 80 [.inr (.inr (1, 0)), .inl ((a : Int), (a : Int))] xw0 = some (some (.inl (1, 1)), xw0) := by
  have h := xcf_mrg xw0 (N := xm80) rfl rfl (@of_decide_eq_true _ (xd11 _ _) (List.all_eq_true.mp xoc0 a (List.mem_range.mpr ha)))
  rw [xoc1] at h
  exact h
set_option maxRecDepth 100000 in
set_option maxHeartbeats 4000000 in
theorem xct_met {a b : Nat} (ha : a < 64) (hb : b < 64) : XMet l D vwCl (tysX tA) tA ex (xSTX ++ [xscA]) xSV xNW xNF xTs xm79 [.inr (.inr (1, 0)), .inl ((a : Int), (a : Int)), .inl ((b : Int), (b : Int))] xw0 (some (.inl ((xdist a b : Int), (xdist a b : Int)))) (xv_w a (xdist a b)) := by
  refine xmet_ofK x_good (x_tysX tA) (x_tysY tA) (x_tysC tA) x_ok (fun j N as w ro w' => xcf_met j N as w ro w') (j := 79) (w2 := xv_w a (xdist a b)) (k2 := 0) (n2 := 0) rfl (Nat.le_of_ble_eq_true rfl) ⟨Nat.le_refl _, Nat.le_refl _⟩ (Or.inr rfl) (fun P hP hF => ?_)
  show P (.inl (0, [(0, .inr (.inr (1, 0))), (1, .inl ((a : Int), (a : Int))), (2, .inl ((b : Int), (b : Int)))], [], xw0, 0, 0))
  refine hP.go (r := .inl (1, [(0, .inr (.inr (1, 0))), (1, .inl ((a : Int), (a : Int))), (2, .inl ((b : Int), (b : Int)))], [.inr (.inr (1, 0))], xw0, 0, 0)) xf79_0 rfl ?_
  refine hP.go (r := .inl (2, [(0, .inr (.inr (1, 0))), (1, .inl ((a : Int), (a : Int))), (2, .inl ((b : Int), (b : Int)))], [.inl ((a : Int), (a : Int)), .inr (.inr (1, 0))], xw0, 0, 0)) xf79_1 rfl ?_
  refine hP.go (r := .inl (5, [(0, .inr (.inr (1, 0))), (1, .inl ((a : Int), (a : Int))), (2, .inl ((b : Int), (b : Int)))], [.inl ((1 : Int), (1 : Int))], xw0, 0, 0)) xf79_2 (sx_callv (N := xm80) (ro := some (.inl ((1 : Int), (1 : Int)))) (w' := xw0) (k := 0) (n := 0) rfl (Nat.le_of_ble_eq_true rfl) (Nat.le_of_ble_eq_true rfl) (Nat.le_of_ble_eq_true rfl) (Nat.le_of_ble_eq_true rfl) (Nat.le_of_ble_eq_true rfl) (Nat.le_of_ble_eq_true rfl) (xrecv_of xw0_0) (xoc ha)) ?_
  refine hP.go (r := .inl (8, [(0, .inr (.inr (1, 0))), (1, .inl ((a : Int), (a : Int))), (2, .inl ((b : Int), (b : Int)))], [], xw0, 0, 0)) xf79_5 (sx_if (o := false) rfl) ?_
  refine hP.go (r := .inl (9, [(0, .inr (.inr (1, 0))), (1, .inl ((a : Int), (a : Int))), (2, .inl ((b : Int), (b : Int)))], [.inr (.inr (1, 0))], xw0, 0, 0)) xf79_8 rfl ?_
  refine hP.go (r := .inl (10, [(0, .inr (.inr (1, 0))), (1, .inl ((a : Int), (a : Int))), (2, .inl ((b : Int), (b : Int)))], [.inl ((b : Int), (b : Int)), .inr (.inr (1, 0))], xw0, 0, 0)) xf79_9 rfl ?_
  refine hP.go (r := .inl (13, [(0, .inr (.inr (1, 0))), (1, .inl ((a : Int), (a : Int))), (2, .inl ((b : Int), (b : Int)))], [.inl ((1 : Int), (1 : Int))], xw0, 0, 0)) xf79_10 (sx_callv (N := xm80) (ro := some (.inl ((1 : Int), (1 : Int)))) (w' := xw0) (k := 0) (n := 0) rfl (Nat.le_of_ble_eq_true rfl) (Nat.le_of_ble_eq_true rfl) (Nat.le_of_ble_eq_true rfl) (Nat.le_of_ble_eq_true rfl) (Nat.le_of_ble_eq_true rfl) (Nat.le_of_ble_eq_true rfl) (xrecv_of xw0_0) (xoc hb)) ?_
  refine hP.go (r := .inl (18, [(0, .inr (.inr (1, 0))), (1, .inl ((a : Int), (a : Int))), (2, .inl ((b : Int), (b : Int)))], [], xw0, 0, 0)) xf79_13 (sx_if (o := true) rfl) ?_
  refine hP.go (r := .inl (19, [(0, .inr (.inr (1, 0))), (1, .inl ((a : Int), (a : Int))), (2, .inl ((b : Int), (b : Int)))], [.inr (.inr (1, 0))], xw0, 0, 0)) xf79_18 rfl ?_
  refine hP.go (r := .inl (22, [(0, .inr (.inr (1, 0))), (1, .inl ((a : Int), (a : Int))), (2, .inl ((b : Int), (b : Int)))], [.inr (.inr (1, 3))], xw0, 0, 0)) xf79_19 (sx_get xw0_0 rfl) ?_
  refine hP.go (r := .inl (23, [(0, .inr (.inr (1, 0))), (1, .inl ((a : Int), (a : Int))), (2, .inl ((b : Int), (b : Int)))], [.inl ((a : Int), (a : Int)), .inr (.inr (1, 3))], xw0, 0, 0)) xf79_22 rfl ?_
  refine hP.go (r := .inl (24, [(0, .inr (.inr (1, 0))), (1, .inl ((a : Int), (a : Int))), (2, .inl ((b : Int), (b : Int)))], [.inl ((b : Int), (b : Int)), .inl ((a : Int), (a : Int)), .inr (.inr (1, 3))], xw0, 0, 0)) xf79_23 rfl ?_
  refine hP.go (r := .inl (27, [(0, .inr (.inr (1, 0))), (1, .inl ((a : Int), (a : Int))), (2, .inl ((b : Int), (b : Int)))], [.inl ((256 : Int), (256 : Int)), .inl ((b : Int), (b : Int)), .inl ((a : Int), (a : Int)), .inr (.inr (1, 3))], xw0, 0, 0)) xf79_24 rfl ?_
  refine hP.2.2.1 _ (30, [(0, .inr (.inr (1, 0))), (1, .inl ((a : Int), (a : Int))), (2, .inl ((b : Int), (b : Int)))], [.inl ((xdist a b : Int), (xdist a b : Int))], xv_w a (xdist a b), 0, 0) ⟨.invokevirtual 254, 81, 4, 0, xm81, some (.inl ((xdist a b : Int), (xdist a b : Int))), xv_w a (xdist a b), xf79_27, rfl, xsd_met ha hb, fun cf hc => sx_callv (N := xm81) rfl (Nat.le_of_ble_eq_true rfl) (Nat.le_of_ble_eq_true rfl) (Nat.le_of_ble_eq_true rfl) (Nat.le_of_ble_eq_true rfl) (Nat.le_of_ble_eq_true rfl) (Nat.le_of_ble_eq_true rfl) (xrecv_of xw0_3) hc⟩ ?_
  refine hP.go (r := .inl (31, [(3, .inl ((xdist a b : Int), (xdist a b : Int))), (0, .inr (.inr (1, 0))), (1, .inl ((a : Int), (a : Int))), (2, .inl ((b : Int), (b : Int)))], [], xv_w a (xdist a b), 0, 0)) xf79_30 rfl ?_
  refine hP.go (r := .inl (32, [(3, .inl ((xdist a b : Int), (xdist a b : Int))), (0, .inr (.inr (1, 0))), (1, .inl ((a : Int), (a : Int))), (2, .inl ((b : Int), (b : Int)))], [.inl ((xdist a b : Int), (xdist a b : Int))], xv_w a (xdist a b), 0, 0)) xf79_31 rfl ?_
  refine hP.go (r := .inl (34, [(3, .inl ((xdist a b : Int), (xdist a b : Int))), (0, .inr (.inr (1, 0))), (1, .inl ((a : Int), (a : Int))), (2, .inl ((b : Int), (b : Int)))], [.inl ((-9 : Int), (-9 : Int)), .inl ((xdist a b : Int), (xdist a b : Int))], xv_w a (xdist a b), 0, 0)) xf79_32 rfl ?_
  refine hP.go (r := .inl (45, [(3, .inl ((xdist a b : Int), (xdist a b : Int))), (0, .inr (.inr (1, 0))), (1, .inl ((a : Int), (a : Int))), (2, .inl ((b : Int), (b : Int)))], [], xv_w a (xdist a b), 0, 0)) xf79_34 (sx_icmp (o := true) (xcne_of.trans (by simp <;> omega))) ?_
  refine hP.go (r := .inl (46, [(3, .inl ((xdist a b : Int), (xdist a b : Int))), (0, .inr (.inr (1, 0))), (1, .inl ((a : Int), (a : Int))), (2, .inl ((b : Int), (b : Int)))], [.inl ((xdist a b : Int), (xdist a b : Int))], xv_w a (xdist a b), 0, 0)) xf79_45 rfl ?_
  exact hP.go (r := .inr (some (.inl ((xdist a b : Int), (xdist a b : Int))), xv_w a (xdist a b), 0, 0)) xf79_46 rfl hF
end XTC
theorem xv_w_tl {a t i : Nat} (h1 : 11 ≤ i) (h2 : i < 98) : (xv_w a t)[i]? = xw0[i]? := xmrg_tl (w := xv_s a t) h1 (by rw [xw0_len]; exact h2)
/-- both sides of an op with two numbers, closed -/
def xpair2 (j1 j2 : Nat) (q1 q2 : Int × Int) : Bool := match xcf 20 xscA j1 [.inr (.inr (1, 0)), .inl q1, .inl q2] xw0 with
  | some (some (.inl z), w1) => decide (z.1 = z.2) && (@decide _ (xd10 (w1[57]?) (some xc57)) && (match xcf 20 xscA j2 [.inr (.inr (1, 57)), .inl q1, .inl q2] w1 with
    | some (some (.inl z'), _) => decide (z' = z)
    | _ => false))
  | _ => false
theorem xpair2_ok {j1 j2 : Nat} {q1 q2 : Int × Int} (h : xpair2 j1 j2 q1 q2 = true) : ∃ (z : Int) (w1 w2 : XW), xcf 20 xscA j1 [.inr (.inr (1, 0)), .inl q1, .inl q2] xw0 = some (some (.inl (z, z)), w1) ∧ w1[57]? = some xc57 ∧ xcf 20 xscA j2 [.inr (.inr (1, 57)), .inl q1, .inl q2] w1 = some (some (.inl (z, z)), w2) := by
  unfold xpair2 at h
  split at h
  · rename_i z w1 h1
    rw [Bool.and_eq_true, Bool.and_eq_true] at h
    obtain ⟨a1, a2, a3⟩ := h
    have a1 := of_decide_eq_true a1
    have a2 := @of_decide_eq_true _ (xd10 _ _) a2
    split at a3
    · rename_i z' w2 h2
      have a3 := of_decide_eq_true a3
      subst a3
      obtain ⟨z1, z2⟩ := z'
      dsimp only at a1
      subst a1
      exact ⟨z1, w1, w2, h1, a2, h2⟩
    · cases a3
  · cases h
def xq23 : List ((Int × Int) × (Int × Int)) := [((-2147483648, -1), xtop), ((64, 2147483647), xtop), ((0, 63), (-2147483648, -1)), ((0, 63), (64, 2147483647))]
theorem xq23_ok : ∀ q ∈ xq23, xpair2 79 184 q.1 q.2 = true := List.all_eq_true.mp (show xq23.all (fun q => xpair2 79 184 q.1 q.2) = true by decide +kernel)
section XLW
variable {p : Program} {l : Launch} {e : Env} {s : State} {m : MethodId} {below : List Frame} {meth : Method} {c : Code} {b L : Nat} {xs : Nat → Int32} {D : va_G} {tA : Nat → ClassId} {ex : List Nat}
theorem xlaw_23b (C0 : lw_At p s m meth c b L xs) (hEn : ∀ sc : List XV, sc.length = 6 → (∀ (i : Nat) (x : XV), sc[i]? = some x → xv_in [] [] x (.int (xs i))) → XEnv D vwCl (tysX tA) ex (xSTX ++ [sc]) xSV xNW xNF (fun q : Nat => s.heap.size ≤ q) s) {q : (Int × Int) × (Int × Int)} (hq : q ∈ xq23) (h1 : q.1.1 ≤ (xs 1).toInt ∧ (xs 1).toInt ≤ q.1.2) (h2 : q.2.1 ≤ (xs 2).toInt ∧ (xs 2).toInt ≤ q.2.2) : XLS p l e s m b below meth c D tA ex (.inl (xS 23)) := by
  obtain ⟨z, w1, w2, e1, e2, e3⟩ := xpair2_ok (xq23_ok q hq)
  exact xlw_23 C0 hEn h1 h2 (xcf_met _ _ _ _ _ _ rfl e1) e2 (xcf_met _ _ _ _ _ _ rfl e3)
theorem xlaw_23 (C0 : lw_At p s m meth c b L xs) (hEn : ∀ sc : List XV, sc.length = 6 → (∀ (i : Nat) (x : XV), sc[i]? = some x → xv_in [] [] x (.int (xs i))) → XEnv D vwCl (tysX tA) ex (xSTX ++ [sc]) xSV xNW xNF (fun q : Nat => s.heap.size ≤ q) s) : XLS p l e s m b below meth c D tA ex (.inl (xS 23)) := by
  have r1 := x_rng (xs 1)
  have r2 := x_rng (xs 2)
  by_cases h1 : (xs 1).toInt < 0
  · exact xlaw_23b C0 hEn (q := ((-2147483648, -1), xtop)) (List.mem_cons_self) ⟨r1.1, by show _ ≤ (-1 : Int); omega⟩ r2
  by_cases h2 : 64 ≤ (xs 1).toInt
  · exact xlaw_23b C0 hEn (q := ((64, 2147483647), xtop)) (List.mem_cons_of_mem _ List.mem_cons_self) ⟨h2, r1.2⟩ r2
  by_cases h3 : (xs 2).toInt < 0
  · exact xlaw_23b C0 hEn (q := ((0, 63), (-2147483648, -1))) (List.mem_cons_of_mem _ (List.mem_cons_of_mem _ List.mem_cons_self)) ⟨by show (0 : Int) ≤ _; omega, by show _ ≤ (63 : Int); omega⟩ ⟨r2.1, by show _ ≤ (-1 : Int); omega⟩
  by_cases h4 : 64 ≤ (xs 2).toInt
  · exact xlaw_23b C0 hEn (q := ((0, 63), (64, 2147483647))) (List.mem_cons_of_mem _ (List.mem_cons_of_mem _ (List.mem_cons_of_mem _ List.mem_cons_self))) ⟨by show (0 : Int) ≤ _; omega, by show _ ≤ (63 : Int); omega⟩ ⟨h4, r2.2⟩
  obtain ⟨a', ea⟩ : ∃ a' : Nat, (xs 1).toInt = (a' : Int) := ⟨(xs 1).toInt.toNat, by omega⟩
  obtain ⟨b', eb⟩ : ∃ b' : Nat, (xs 2).toInt = (b' : Int) := ⟨(xs 2).toInt.toNat, by omega⟩
  have ha : a' < 64 := by omega
  have hb : b' < 64 := by omega
  have hw : ∀ i, 11 ≤ i → i < 98 → ∀ o, xw0[i]? = o → (xv_w a' (xdist a' b'))[i]? = o := fun i h1 h2 o ho => (xv_w_tl h1 h2).trans ho
  exact xlw_23 C0 hEn (q1 := ((a' : Int), (a' : Int))) (q2 := ((b' : Int), (b' : Int))) ⟨by show (a' : Int) ≤ _; omega, by show _ ≤ (a' : Int); omega⟩ ⟨by show (b' : Int) ≤ _; omega, by show _ ≤ (b' : Int); omega⟩ (xct_met ha hb) (hw 57 (by decide) (by decide) _ xw0_57) (xmt_met (hw 57 (by decide) (by decide) _ xw0_57) (hw 64 (by decide) (by decide) _ xw0_64) (hw 66 (by decide) (by decide) _ xw0_66) (hw 69 (by decide) (by decide) _ xw0_69) ha hb)
end XLW
