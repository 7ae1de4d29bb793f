/-! ===== setTimes of the model: its loops ===== -/
theorem xf185_0 : xfetch (xm_t xm185) 0 = some (.iconst 0, 0, 0, 0) := rfl
theorem xf185_1 : xfetch (xm_t xm185) 1 = some (.istore_n 2, 0, 0, 0) := rfl
theorem xf185_2 : xfetch (xm_t xm185) 2 = some (.iload_n 2, 0, 0, 0) := rfl
theorem xf185_3 : xfetch (xm_t xm185) 3 = some (.bipush 64, 0, 0, 64) := rfl
theorem xf185_5 : xfetch (xm_t xm185) 5 = some (.if_icmp .ge 26, 31, 0, 0) := rfl
theorem xf185_8 : xfetch (xm_t xm185) 8 = some (.aload_n 0, 0, 0, 0) := rfl
theorem xf185_9 : xfetch (xm_t xm185) 9 = some (.getfield 52, 10, 19, 0) := rfl
theorem xf185_12 : xfetch (xm_t xm185) 12 = some (.iload_n 2, 0, 0, 0) := rfl
theorem xf185_13 : xfetch (xm_t xm185) 13 = some (.iload_n 2, 0, 0, 0) := rfl
theorem xf185_14 : xfetch (xm_t xm185) 14 = some (.iload_n 1, 0, 0, 0) := rfl
theorem xf185_15 : xfetch (xm_t xm185) 15 = some (.if_icmp .ne 7, 22, 0, 0) := rfl
theorem xf185_18 : xfetch (xm_t xm185) 18 = some (.iconst 0, 0, 0, 0) := rfl
theorem xf185_19 : xfetch (xm_t xm185) 19 = some (.goto 5, 24, 0, 0) := rfl
theorem xf185_22 : xfetch (xm_t xm185) 22 = some (.ldc 196, 0, 0, 100000) := rfl
theorem xf185_24 : xfetch (xm_t xm185) 24 = some (.iastore, 0, 0, 0) := rfl
theorem xf185_25 : xfetch (xm_t xm185) 25 = some (.iinc 2 1, 0, 0, 1) := rfl
theorem xf185_28 : xfetch (xm_t xm185) 28 = some (.goto (-26), 2, 0, 0) := rfl
theorem xf185_31 : xfetch (xm_t xm185) 31 = some (.aload_n 0, 0, 0, 0) := rfl
theorem xf185_32 : xfetch (xm_t xm185) 32 = some (.getfield 32, 10, 12, 0) := rfl
theorem xf185_35 : xfetch (xm_t xm185) 35 = some (.iload_n 1, 0, 0, 0) := rfl
theorem xf185_36 : xfetch (xm_t xm185) 36 = some (.baload, 0, 0, 0) := rfl
theorem xf185_37 : xfetch (xm_t xm185) 37 = some (.ifCond .ne 7, 44, 0, 0) := rfl
theorem xf185_40 : xfetch (xm_t xm185) 40 = some (.iconst 1, 0, 0, 1) := rfl
theorem xf185_41 : xfetch (xm_t xm185) 41 = some (.goto 4, 45, 0, 0) := rfl
theorem xf185_44 : xfetch (xm_t xm185) 44 = some (.iconst 0, 0, 0, 0) := rfl
theorem xf185_45 : xfetch (xm_t xm185) 45 = some (.istore_n 2, 0, 0, 0) := rfl
theorem xf185_46 : xfetch (xm_t xm185) 46 = some (.iload_n 2, 0, 0, 0) := rfl
theorem xf185_47 : xfetch (xm_t xm185) 47 = some (.ifCond .eq 104, 151, 0, 0) := rfl
theorem xf185_50 : xfetch (xm_t xm185) 50 = some (.iconst 0, 0, 0, 0) := rfl
theorem xf185_51 : xfetch (xm_t xm185) 51 = some (.istore_n 2, 0, 0, 0) := rfl
theorem xf185_52 : xfetch (xm_t xm185) 52 = some (.iconst 0, 0, 0, 0) := rfl
theorem xf185_53 : xfetch (xm_t xm185) 53 = some (.istore_n 3, 0, 0, 0) := rfl
theorem xf185_54 : xfetch (xm_t xm185) 54 = some (.iload_n 3, 0, 0, 0) := rfl
theorem xf185_55 : xfetch (xm_t xm185) 55 = some (.bipush 64, 0, 0, 64) := rfl
theorem xf185_57 : xfetch (xm_t xm185) 57 = some (.if_icmp .ge 91, 148, 0, 0) := rfl
theorem xf185_60 : xfetch (xm_t xm185) 60 = some (.iconst 1, 0, 0, 1) := rfl
theorem xf185_61 : xfetch (xm_t xm185) 61 = some (.istore 4, 0, 0, 0) := rfl
theorem xf185_63 : xfetch (xm_t xm185) 63 = some (.iload 4, 0, 0, 0) := rfl
theorem xf185_65 : xfetch (xm_t xm185) 65 = some (.iconst 4, 0, 0, 4) := rfl
theorem xf185_66 : xfetch (xm_t xm185) 66 = some (.if_icmp .gt 76, 142, 0, 0) := rfl
theorem xf185_69 : xfetch (xm_t xm185) 69 = some (.aload_n 0, 0, 0, 0) := rfl
theorem xf185_70 : xfetch (xm_t xm185) 70 = some (.getfield 52, 10, 19, 0) := rfl
theorem xf185_73 : xfetch (xm_t xm185) 73 = some (.iload_n 3, 0, 0, 0) := rfl
theorem xf185_74 : xfetch (xm_t xm185) 74 = some (.iaload, 0, 0, 0) := rfl
theorem xf185_75 : xfetch (xm_t xm185) 75 = some (.ldc 196, 0, 0, 100000) := rfl
theorem xf185_77 : xfetch (xm_t xm185) 77 = some (.if_icmp .ge 65, 142, 0, 0) := rfl
theorem xf185_80 : xfetch (xm_t xm185) 80 = some (.aload_n 0, 0, 0, 0) := rfl
theorem xf185_81 : xfetch (xm_t xm185) 81 = some (.iload_n 3, 0, 0, 0) := rfl
theorem xf185_82 : xfetch (xm_t xm185) 82 = some (.iload 4, 0, 0, 0) := rfl
theorem xf185_84 : xfetch (xm_t xm185) 84 = some (.invokevirtual 197, 186, 3, 0) := rfl
theorem xf185_87 : xfetch (xm_t xm185) 87 = some (.istore 5, 0, 0, 0) := rfl
theorem xf185_89 : xfetch (xm_t xm185) 89 = some (.aload_n 0, 0, 0, 0) := rfl
theorem xf185_90 : xfetch (xm_t xm185) 90 = some (.getfield 52, 10, 19, 0) := rfl
theorem xf185_93 : xfetch (xm_t xm185) 93 = some (.iload_n 3, 0, 0, 0) := rfl
theorem xf185_94 : xfetch (xm_t xm185) 94 = some (.iaload, 0, 0, 0) := rfl
theorem xf185_95 : xfetch (xm_t xm185) 95 = some (.aload_n 0, 0, 0, 0) := rfl
theorem xf185_96 : xfetch (xm_t xm185) 96 = some (.getfield 39, 10, 14, 0) := rfl
theorem xf185_99 : xfetch (xm_t xm185) 99 = some (.iload 5, 0, 0, 0) := rfl
theorem xf185_101 : xfetch (xm_t xm185) 101 = some (.iaload, 0, 0, 0) := rfl
theorem xf185_102 : xfetch (xm_t xm185) 102 = some (.iadd, 0, 0, 0) := rfl
theorem xf185_103 : xfetch (xm_t xm185) 103 = some (.aload_n 0, 0, 0, 0) := rfl
theorem xf185_104 : xfetch (xm_t xm185) 104 = some (.getfield 52, 10, 19, 0) := rfl
theorem xf185_107 : xfetch (xm_t xm185) 107 = some (.iload 5, 0, 0, 0) := rfl
theorem xf185_109 : xfetch (xm_t xm185) 109 = some (.iaload, 0, 0, 0) := rfl
theorem xf185_110 : xfetch (xm_t xm185) 110 = some (.if_icmp .ge 26, 136, 0, 0) := rfl
theorem xf185_113 : xfetch (xm_t xm185) 113 = some (.aload_n 0, 0, 0, 0) := rfl
theorem xf185_114 : xfetch (xm_t xm185) 114 = some (.getfield 52, 10, 19, 0) := rfl
theorem xf185_117 : xfetch (xm_t xm185) 117 = some (.iload 5, 0, 0, 0) := rfl
theorem xf185_119 : xfetch (xm_t xm185) 119 = some (.aload_n 0, 0, 0, 0) := rfl
theorem xf185_120 : xfetch (xm_t xm185) 120 = some (.getfield 52, 10, 19, 0) := rfl
theorem xf185_123 : xfetch (xm_t xm185) 123 = some (.iload_n 3, 0, 0, 0) := rfl
theorem xf185_124 : xfetch (xm_t xm185) 124 = some (.iaload, 0, 0, 0) := rfl
theorem xf185_125 : xfetch (xm_t xm185) 125 = some (.aload_n 0, 0, 0, 0) := rfl
theorem xf185_126 : xfetch (xm_t xm185) 126 = some (.getfield 39, 10, 14, 0) := rfl
theorem xf185_129 : xfetch (xm_t xm185) 129 = some (.iload 5, 0, 0, 0) := rfl
theorem xf185_131 : xfetch (xm_t xm185) 131 = some (.iaload, 0, 0, 0) := rfl
theorem xf185_132 : xfetch (xm_t xm185) 132 = some (.iadd, 0, 0, 0) := rfl
theorem xf185_133 : xfetch (xm_t xm185) 133 = some (.iastore, 0, 0, 0) := rfl
theorem xf185_134 : xfetch (xm_t xm185) 134 = some (.iconst 1, 0, 0, 1) := rfl
theorem xf185_135 : xfetch (xm_t xm185) 135 = some (.istore_n 2, 0, 0, 0) := rfl
theorem xf185_136 : xfetch (xm_t xm185) 136 = some (.iinc 4 1, 0, 0, 1) := rfl
theorem xf185_139 : xfetch (xm_t xm185) 139 = some (.goto (-76), 63, 0, 0) := rfl
theorem xf185_142 : xfetch (xm_t xm185) 142 = some (.iinc 3 1, 0, 0, 1) := rfl
theorem xf185_145 : xfetch (xm_t xm185) 145 = some (.goto (-91), 54, 0, 0) := rfl
theorem xf185_148 : xfetch (xm_t xm185) 148 = some (.goto (-102), 46, 0, 0) := rfl
theorem xf185_151 : xfetch (xm_t xm185) 151 = some (.return_, 0, 0, 0) := rfl
abbrev xSt (sc : List XV) (M : XM) : XS → Option XR := xstep (xcf 20 sc) xMT xFT xFD xTY xTC (xSTX ++ [sc]) M
abbrev xJm (l : Launch) (D : va_G) (tA : Nat → ClassId) (ex : List Nat) (sc : List XV) (M : XM) : XS → XS → Prop := XJ l D vwCl (tysX tA) tA ex (xSTX ++ [sc]) xSV xNW xNF xTs xMT xFT xFD xTY xTC M
theorem xrecv_of {w : XW} {q c : Nat} {fs as : List XV} (hw : w[q]? = some (.inl (c, fs))) : xrecv w c (.inr (.inr (1, q)) :: as) = true := by
  simp [xrecv, hw]
theorem sx_callv {cf : XF} {MT : Nat → Option XM} {FT : Nat → Nat → Option FieldType} {FD : Nat → Option (List XV)} {TY : Nat → Option FieldType} {TC : Nat → Option Nat} {exc : List (List XV)} {M N : XM} {pc : Nat} {lv : XL} {st : List XV} {w : XW} {k n idx j na : Nat} {z : Int} {ro : Option XV} {w' : XW} (hN : MT j = some N) (h1 : na ≤ st.length) (h2 : ((st.drop na).map xcat).sum ≤ 8) (h3 : xm_f N + 1 ≤ xm_f M) (h4 : 8 + (xm_l N + 11) + xm_o N ≤ xm_o M) (h5 : k + xm_k N ≤ xm_k M) (h6 : n + xm_n N ≤ xm_n M) (h7 : xrecv w (xm_i N) (st.take na).reverse = true) (hc : cf j (st.take na).reverse w = some (ro, w')) : xins cf MT FT FD TY TC exc M (.invokevirtual idx) j na z pc lv st w k n = some (.inl (pc + 3, lv, ro.toList ++ st.drop na, w', k + xm_k N, n + xm_n N)) := by
  show xh_call cf M (MT j) j na true pc lv st w k n = _
  rw [hN]
  simp only [xh_call]
  rw [if_pos ⟨h1, h2, h3, h4, h5, h6, by rw [h7]; rfl⟩, hc]
theorem sx_calls {cf : XF} {MT : Nat → Option XM} {FT : Nat → Nat → Option FieldType} {FD : Nat → Option (List XV)} {TY : Nat → Option FieldType} {TC : Nat → Option Nat} {exc : List (List XV)} {M N : XM} {pc : Nat} {lv : XL} {st : List XV} {w : XW} {k n idx j na : Nat} {z : Int} {ro : Option XV} {w' : XW} (h0 : j < 7000) (hN : MT j = some N) (h1 : na ≤ st.length) (h2 : ((st.drop na).map xcat).sum ≤ 8) (h3 : xm_f N + 1 ≤ xm_f M) (h4 : 8 + (xm_l N + 11) + xm_o N ≤ xm_o M) (h5 : k + xm_k N ≤ xm_k M) (h6 : n + xm_n N ≤ xm_n M) (hc : cf j (st.take na).reverse w = some (ro, w')) : xins cf MT FT FD TY TC exc M (.invokestatic idx) j na z pc lv st w k n = some (.inl (pc + 3, lv, ro.toList ++ st.drop na, w', k + xm_k N, n + xm_n N)) := by
  show (if j < 7000 then xh_call cf M (MT j) j na false pc lv st w k n else _) = _
  rw [if_pos h0, hN]
  simp only [xh_call]
  rw [if_pos ⟨h1, h2, h3, h4, h5, h6, rfl⟩, hc]
def xsum : Nat → (Nat → Int) → Int
  | 0, _ => 0
  | n + 1, f => xsum n f + f n
theorem xsum_nn {f : Nat → Int} : ∀ {n : Nat}, (∀ i, i < n → 0 ≤ f i) → 0 ≤ xsum n f
  | 0, _ => Int.le_refl _
  | n + 1, h => by
    have h1 := xsum_nn (n := n) (fun i hi => h i (by omega))
    have h2 := h n (by omega)
    show 0 ≤ xsum n f + f n
    omega
theorem xsum_up0 {f : Nat → Int} {d : Nat} {v : Int} : ∀ {n : Nat}, n ≤ d → xsum n (xup f d v) = xsum n f
  | 0, _ => rfl
  | n + 1, h => by
    show xsum n (xup f d v) + xup f d v n = xsum n f + f n
    rw [xsum_up0 (by omega)]
    simp [xup, show n ≠ d by omega]
theorem xsum_up {f : Nat → Int} {d : Nat} {v : Int} : ∀ {n : Nat}, d < n → xsum n (xup f d v) = xsum n f - f d + v
  | 0, h => by omega
  | n + 1, h => by
    show xsum n (xup f d v) + xup f d v n = xsum n f + f n - f d + v
    by_cases hd : d = n
    · subst hd
      rw [xsum_up0 (Nat.le_refl _)]
      simp [xup]
    · rw [xsum_up (show d < n by omega)]
      simp [xup, show n ≠ d from fun e => hd e.symm]
      omega
section XTM
variable {l : Launch} {D : va_G} {tA : Nat → ClassId} {ex : List Nat} {sc : List XV} {P : XR → Prop} {W : XW} {fs : List XV} {wm : Nat → Int} {ld : Nat → Nat → Nat} {fr : Int}
/-- the world with these times -/
abbrev xWT (W : XW) (f : Nat → Int) : XW := W.set 69 (.inr (0, xtl 64 f))
def xTH (sc : List XV) (W : XW) (fs : List XV) (wm : Nat → Int) (ld : Nat → Nat → Nat) : Prop := W[57]? = some (.inl (10, fs)) ∧ fs[19]? = some (.inr (.inr (1, 69))) ∧ fs[12]? = some (.inr (.inr (1, 64))) ∧ fs[14]? = some (.inr (.inr (1, 66))) ∧ W[66]? = some (.inr (0, xtl 64 wm)) ∧ 69 < W.length ∧ (∀ i, i < 64 → 0 ≤ wm i ∧ wm i ≤ 4) ∧ ∀ c y, c < 64 → 1 ≤ y → y ≤ 4 → ld c y < 64 ∧ ∀ f, xcf 20 sc 186 [.inr (.inr (1, 57)), .inl ((c : Int), (c : Int)), .inl ((y : Int), (y : Int))] (xWT W f) = some (some (.inl ((ld c y : Int), (ld c y : Int))), xWT W f)
set_option maxHeartbeats 4000000 in
theorem xtm_iter (hP : XCl (xSt sc xm185) (xJm l D tA ex sc xm185) P) (hH : xTH sc W fs wm ld) {f : Nat → Int} {c y : Nat} {le : Int} (hc : c < 64) (hy1 : 1 ≤ y) (hy : y ≤ 4) (hf : ∀ i, i < 64 → 0 ≤ f i ∧ f i ≤ 100000) (hlt : f c < 100000) (k1 : f c + wm (ld c y) < f (ld c y) → P (.inl (63, [(4, .inl ((y : Int) + 1, (y : Int) + 1)), (3, .inl ((c : Int), (c : Int))), (2, .inl ((1 : Int), (1 : Int))), (1, .inl (fr, fr)), (0, .inr (.inr (1, 57)))], [], xWT W (xup f (ld c y) (f c + wm (ld c y))), 0, 0))) (k0 : ¬ f c + wm (ld c y) < f (ld c y) → P (.inl (63, [(4, .inl ((y : Int) + 1, (y : Int) + 1)), (3, .inl ((c : Int), (c : Int))), (2, .inl (le, le)), (1, .inl (fr, fr)), (0, .inr (.inr (1, 57)))], [], xWT W f, 0, 0))) : P (.inl (63, [(4, .inl ((y : Int), (y : Int))), (3, .inl ((c : Int), (c : Int))), (2, .inl (le, le)), (1, .inl (fr, fr)), (0, .inr (.inr (1, 57)))], [], xWT W f, 0, 0)) := by
  obtain ⟨g57, hT, hR, hM, g66, h69, hwm, hld⟩ := hH
  have h57 : (xWT W (f))[57]? = some (.inl (10, fs)) := xset_get (by decide) g57
  have h66 : (xWT W (f))[66]? = some (.inr (0, xtl 64 wm)) := xset_get (by decide) g66
  have hWT : (xWT W (f))[69]? = some (.inr (0, xtl 64 (f))) := xset_at h69
  have hld := hld c y hc hy1 hy
  have hfc := hf c hc
  have hfd := hf (ld c y) hld.1
  have hwd := hwm (ld c y) hld.1
  refine hP.go (r := .inl (65, [(4, .inl ((y : Int), (y : Int))), (3, .inl ((c : Int), (c : Int))), (2, .inl (le, le)), (1, .inl (fr, fr)), (0, .inr (.inr (1, 57)))], [.inl ((y : Int), (y : Int))], xWT W f, 0, 0)) xf185_63 rfl ?_
  refine hP.go (r := .inl (66, [(4, .inl ((y : Int), (y : Int))), (3, .inl ((c : Int), (c : Int))), (2, .inl (le, le)), (1, .inl (fr, fr)), (0, .inr (.inr (1, 57)))], [.inl ((4 : Int), (4 : Int)), .inl ((y : Int), (y : Int))], xWT W f, 0, 0)) xf185_65 rfl ?_
  refine hP.go (r := .inl (69, [(4, .inl ((y : Int), (y : Int))), (3, .inl ((c : Int), (c : Int))), (2, .inl (le, le)), (1, .inl (fr, fr)), (0, .inr (.inr (1, 57)))], [], xWT W f, 0, 0)) xf185_66 (sx_icmp (o := false) (xgt_of.trans (by simp; omega))) ?_
  refine hP.go (r := .inl (70, [(4, .inl ((y : Int), (y : Int))), (3, .inl ((c : Int), (c : Int))), (2, .inl (le, le)), (1, .inl (fr, fr)), (0, .inr (.inr (1, 57)))], [.inr (.inr (1, 57))], xWT W f, 0, 0)) xf185_69 rfl ?_
  refine hP.go (r := .inl (73, [(4, .inl ((y : Int), (y : Int))), (3, .inl ((c : Int), (c : Int))), (2, .inl (le, le)), (1, .inl (fr, fr)), (0, .inr (.inr (1, 57)))], [.inr (.inr (1, 69))], xWT W f, 0, 0)) xf185_70 (sx_get h57 hT) ?_
  refine hP.go (r := .inl (74, [(4, .inl ((y : Int), (y : Int))), (3, .inl ((c : Int), (c : Int))), (2, .inl (le, le)), (1, .inl (fr, fr)), (0, .inr (.inr (1, 57)))], [.inl ((c : Int), (c : Int)), .inr (.inr (1, 69))], xWT W f, 0, 0)) xf185_73 rfl ?_
  refine hP.go (r := .inl (75, [(4, .inl ((y : Int), (y : Int))), (3, .inl ((c : Int), (c : Int))), (2, .inl (le, le)), (1, .inl (fr, fr)), (0, .inr (.inr (1, 57)))], [.inl (f c, f c)], xWT W f, 0, 0)) xf185_74 (sx_iald hWT (xtl_read hc)) ?_
  refine hP.go (r := .inl (77, [(4, .inl ((y : Int), (y : Int))), (3, .inl ((c : Int), (c : Int))), (2, .inl (le, le)), (1, .inl (fr, fr)), (0, .inr (.inr (1, 57)))], [.inl ((100000 : Int), (100000 : Int)), .inl (f c, f c)], xWT W f, 0, 0)) xf185_75 rfl ?_
  refine hP.go (r := .inl (80, [(4, .inl ((y : Int), (y : Int))), (3, .inl ((c : Int), (c : Int))), (2, .inl (le, le)), (1, .inl (fr, fr)), (0, .inr (.inr (1, 57)))], [], xWT W f, 0, 0)) xf185_77 (sx_icmp (o := false) (xge_of.trans (by simp; omega))) ?_
  refine hP.go (r := .inl (81, [(4, .inl ((y : Int), (y : Int))), (3, .inl ((c : Int), (c : Int))), (2, .inl (le, le)), (1, .inl (fr, fr)), (0, .inr (.inr (1, 57)))], [.inr (.inr (1, 57))], xWT W f, 0, 0)) xf185_80 rfl ?_
  refine hP.go (r := .inl (82, [(4, .inl ((y : Int), (y : Int))), (3, .inl ((c : Int), (c : Int))), (2, .inl (le, le)), (1, .inl (fr, fr)), (0, .inr (.inr (1, 57)))], [.inl ((c : Int), (c : Int)), .inr (.inr (1, 57))], xWT W f, 0, 0)) xf185_81 rfl ?_
  refine hP.go (r := .inl (84, [(4, .inl ((y : Int), (y : Int))), (3, .inl ((c : Int), (c : Int))), (2, .inl (le, le)), (1, .inl (fr, fr)), (0, .inr (.inr (1, 57)))], [.inl ((y : Int), (y : Int)), .inl ((c : Int), (c : Int)), .inr (.inr (1, 57))], xWT W f, 0, 0)) xf185_82 rfl ?_
  refine hP.go (r := .inl (87, [(4, .inl ((y : Int), (y : Int))), (3, .inl ((c : Int), (c : Int))), (2, .inl (le, le)), (1, .inl (fr, fr)), (0, .inr (.inr (1, 57)))], [.inl ((ld c y : Int), (ld c y : Int))], xWT W f, 0, 0)) xf185_84 (sx_callv (N := xm186) (ro := some (.inl ((ld c y : Int), (ld c y : Int)))) (w' := xWT W f) (k := 0) (n := 0) rfl (Nat.le_of_ble_eq_true rfl) (Nat.le_of_ble_eq_true rfl) (Nat.le_of_ble_eq_true rfl) (Nat.le_of_ble_eq_true rfl) (Nat.le_of_ble_eq_true rfl) (Nat.le_of_ble_eq_true rfl) (xrecv_of h57) (hld.2 f)) ?_
  refine hP.go (r := .inl (89, [(5, .inl ((ld c y : Int), (ld c y : Int))), (4, .inl ((y : Int), (y : Int))), (3, .inl ((c : Int), (c : Int))), (2, .inl (le, le)), (1, .inl (fr, fr)), (0, .inr (.inr (1, 57)))], [], xWT W f, 0, 0)) xf185_87 rfl ?_
  refine hP.go (r := .inl (90, [(5, .inl ((ld c y : Int), (ld c y : Int))), (4, .inl ((y : Int), (y : Int))), (3, .inl ((c : Int), (c : Int))), (2, .inl (le, le)), (1, .inl (fr, fr)), (0, .inr (.inr (1, 57)))], [.inr (.inr (1, 57))], xWT W f, 0, 0)) xf185_89 rfl ?_
  refine hP.go (r := .inl (93, [(5, .inl ((ld c y : Int), (ld c y : Int))), (4, .inl ((y : Int), (y : Int))), (3, .inl ((c : Int), (c : Int))), (2, .inl (le, le)), (1, .inl (fr, fr)), (0, .inr (.inr (1, 57)))], [.inr (.inr (1, 69))], xWT W f, 0, 0)) xf185_90 (sx_get h57 hT) ?_
  refine hP.go (r := .inl (94, [(5, .inl ((ld c y : Int), (ld c y : Int))), (4, .inl ((y : Int), (y : Int))), (3, .inl ((c : Int), (c : Int))), (2, .inl (le, le)), (1, .inl (fr, fr)), (0, .inr (.inr (1, 57)))], [.inl ((c : Int), (c : Int)), .inr (.inr (1, 69))], xWT W f, 0, 0)) xf185_93 rfl ?_
  refine hP.go (r := .inl (95, [(5, .inl ((ld c y : Int), (ld c y : Int))), (4, .inl ((y : Int), (y : Int))), (3, .inl ((c : Int), (c : Int))), (2, .inl (le, le)), (1, .inl (fr, fr)), (0, .inr (.inr (1, 57)))], [.inl (f c, f c)], xWT W f, 0, 0)) xf185_94 (sx_iald hWT (xtl_read hc)) ?_
  refine hP.go (r := .inl (96, [(5, .inl ((ld c y : Int), (ld c y : Int))), (4, .inl ((y : Int), (y : Int))), (3, .inl ((c : Int), (c : Int))), (2, .inl (le, le)), (1, .inl (fr, fr)), (0, .inr (.inr (1, 57)))], [.inr (.inr (1, 57)), .inl (f c, f c)], xWT W f, 0, 0)) xf185_95 rfl ?_
  refine hP.go (r := .inl (99, [(5, .inl ((ld c y : Int), (ld c y : Int))), (4, .inl ((y : Int), (y : Int))), (3, .inl ((c : Int), (c : Int))), (2, .inl (le, le)), (1, .inl (fr, fr)), (0, .inr (.inr (1, 57)))], [.inr (.inr (1, 66)), .inl (f c, f c)], xWT W f, 0, 0)) xf185_96 (sx_get h57 hM) ?_
  refine hP.go (r := .inl (101, [(5, .inl ((ld c y : Int), (ld c y : Int))), (4, .inl ((y : Int), (y : Int))), (3, .inl ((c : Int), (c : Int))), (2, .inl (le, le)), (1, .inl (fr, fr)), (0, .inr (.inr (1, 57)))], [.inl ((ld c y : Int), (ld c y : Int)), .inr (.inr (1, 66)), .inl (f c, f c)], xWT W f, 0, 0)) xf185_99 rfl ?_
  refine hP.go (r := .inl (102, [(5, .inl ((ld c y : Int), (ld c y : Int))), (4, .inl ((y : Int), (y : Int))), (3, .inl ((c : Int), (c : Int))), (2, .inl (le, le)), (1, .inl (fr, fr)), (0, .inr (.inr (1, 57)))], [.inl (wm (ld c y), wm (ld c y)), .inl (f c, f c)], xWT W f, 0, 0)) xf185_101 (sx_iald h66 (xtl_read hld.1)) ?_
  refine hP.go (r := .inl (103, [(5, .inl ((ld c y : Int), (ld c y : Int))), (4, .inl ((y : Int), (y : Int))), (3, .inl ((c : Int), (c : Int))), (2, .inl (le, le)), (1, .inl (fr, fr)), (0, .inr (.inr (1, 57)))], [.inl (f c + wm (ld c y), f c + wm (ld c y))], xWT W f, 0, 0)) xf185_102 (sx_iadd (by omega)) ?_
  refine hP.go (r := .inl (104, [(5, .inl ((ld c y : Int), (ld c y : Int))), (4, .inl ((y : Int), (y : Int))), (3, .inl ((c : Int), (c : Int))), (2, .inl (le, le)), (1, .inl (fr, fr)), (0, .inr (.inr (1, 57)))], [.inr (.inr (1, 57)), .inl (f c + wm (ld c y), f c + wm (ld c y))], xWT W f, 0, 0)) xf185_103 rfl ?_
  refine hP.go (r := .inl (107, [(5, .inl ((ld c y : Int), (ld c y : Int))), (4, .inl ((y : Int), (y : Int))), (3, .inl ((c : Int), (c : Int))), (2, .inl (le, le)), (1, .inl (fr, fr)), (0, .inr (.inr (1, 57)))], [.inr (.inr (1, 69)), .inl (f c + wm (ld c y), f c + wm (ld c y))], xWT W f, 0, 0)) xf185_104 (sx_get h57 hT) ?_
  refine hP.go (r := .inl (109, [(5, .inl ((ld c y : Int), (ld c y : Int))), (4, .inl ((y : Int), (y : Int))), (3, .inl ((c : Int), (c : Int))), (2, .inl (le, le)), (1, .inl (fr, fr)), (0, .inr (.inr (1, 57)))], [.inl ((ld c y : Int), (ld c y : Int)), .inr (.inr (1, 69)), .inl (f c + wm (ld c y), f c + wm (ld c y))], xWT W f, 0, 0)) xf185_107 rfl ?_
  refine hP.go (r := .inl (110, [(5, .inl ((ld c y : Int), (ld c y : Int))), (4, .inl ((y : Int), (y : Int))), (3, .inl ((c : Int), (c : Int))), (2, .inl (le, le)), (1, .inl (fr, fr)), (0, .inr (.inr (1, 57)))], [.inl (f (ld c y), f (ld c y)), .inl (f c + wm (ld c y), f c + wm (ld c y))], xWT W f, 0, 0)) xf185_109 (sx_iald hWT (xtl_read hld.1)) ?_
  by_cases hr : f c + wm (ld c y) < f (ld c y)
  · skip
    refine hP.go (r := .inl (113, [(5, .inl ((ld c y : Int), (ld c y : Int))), (4, .inl ((y : Int), (y : Int))), (3, .inl ((c : Int), (c : Int))), (2, .inl (le, le)), (1, .inl (fr, fr)), (0, .inr (.inr (1, 57)))], [], xWT W f, 0, 0)) xf185_110 (sx_icmp (o := false) (xge_of.trans (by simp; omega))) ?_
    refine hP.go (r := .inl (114, [(5, .inl ((ld c y : Int), (ld c y : Int))), (4, .inl ((y : Int), (y : Int))), (3, .inl ((c : Int), (c : Int))), (2, .inl (le, le)), (1, .inl (fr, fr)), (0, .inr (.inr (1, 57)))], [.inr (.inr (1, 57))], xWT W f, 0, 0)) xf185_113 rfl ?_
    refine hP.go (r := .inl (117, [(5, .inl ((ld c y : Int), (ld c y : Int))), (4, .inl ((y : Int), (y : Int))), (3, .inl ((c : Int), (c : Int))), (2, .inl (le, le)), (1, .inl (fr, fr)), (0, .inr (.inr (1, 57)))], [.inr (.inr (1, 69))], xWT W f, 0, 0)) xf185_114 (sx_get h57 hT) ?_
    refine hP.go (r := .inl (119, [(5, .inl ((ld c y : Int), (ld c y : Int))), (4, .inl ((y : Int), (y : Int))), (3, .inl ((c : Int), (c : Int))), (2, .inl (le, le)), (1, .inl (fr, fr)), (0, .inr (.inr (1, 57)))], [.inl ((ld c y : Int), (ld c y : Int)), .inr (.inr (1, 69))], xWT W f, 0, 0)) xf185_117 rfl ?_
    refine hP.go (r := .inl (120, [(5, .inl ((ld c y : Int), (ld c y : Int))), (4, .inl ((y : Int), (y : Int))), (3, .inl ((c : Int), (c : Int))), (2, .inl (le, le)), (1, .inl (fr, fr)), (0, .inr (.inr (1, 57)))], [.inr (.inr (1, 57)), .inl ((ld c y : Int), (ld c y : Int)), .inr (.inr (1, 69))], xWT W f, 0, 0)) xf185_119 rfl ?_
    refine hP.go (r := .inl (123, [(5, .inl ((ld c y : Int), (ld c y : Int))), (4, .inl ((y : Int), (y : Int))), (3, .inl ((c : Int), (c : Int))), (2, .inl (le, le)), (1, .inl (fr, fr)), (0, .inr (.inr (1, 57)))], [.inr (.inr (1, 69)), .inl ((ld c y : Int), (ld c y : Int)), .inr (.inr (1, 69))], xWT W f, 0, 0)) xf185_120 (sx_get h57 hT) ?_
    refine hP.go (r := .inl (124, [(5, .inl ((ld c y : Int), (ld c y : Int))), (4, .inl ((y : Int), (y : Int))), (3, .inl ((c : Int), (c : Int))), (2, .inl (le, le)), (1, .inl (fr, fr)), (0, .inr (.inr (1, 57)))], [.inl ((c : Int), (c : Int)), .inr (.inr (1, 69)), .inl ((ld c y : Int), (ld c y : Int)), .inr (.inr (1, 69))], xWT W f, 0, 0)) xf185_123 rfl ?_
    refine hP.go (r := .inl (125, [(5, .inl ((ld c y : Int), (ld c y : Int))), (4, .inl ((y : Int), (y : Int))), (3, .inl ((c : Int), (c : Int))), (2, .inl (le, le)), (1, .inl (fr, fr)), (0, .inr (.inr (1, 57)))], [.inl (f c, f c), .inl ((ld c y : Int), (ld c y : Int)), .inr (.inr (1, 69))], xWT W f, 0, 0)) xf185_124 (sx_iald hWT (xtl_read hc)) ?_
    refine hP.go (r := .inl (126, [(5, .inl ((ld c y : Int), (ld c y : Int))), (4, .inl ((y : Int), (y : Int))), (3, .inl ((c : Int), (c : Int))), (2, .inl (le, le)), (1, .inl (fr, fr)), (0, .inr (.inr (1, 57)))], [.inr (.inr (1, 57)), .inl (f c, f c), .inl ((ld c y : Int), (ld c y : Int)), .inr (.inr (1, 69))], xWT W f, 0, 0)) xf185_125 rfl ?_
    refine hP.go (r := .inl (129, [(5, .inl ((ld c y : Int), (ld c y : Int))), (4, .inl ((y : Int), (y : Int))), (3, .inl ((c : Int), (c : Int))), (2, .inl (le, le)), (1, .inl (fr, fr)), (0, .inr (.inr (1, 57)))], [.inr (.inr (1, 66)), .inl (f c, f c), .inl ((ld c y : Int), (ld c y : Int)), .inr (.inr (1, 69))], xWT W f, 0, 0)) xf185_126 (sx_get h57 hM) ?_
    refine hP.go (r := .inl (131, [(5, .inl ((ld c y : Int), (ld c y : Int))), (4, .inl ((y : Int), (y : Int))), (3, .inl ((c : Int), (c : Int))), (2, .inl (le, le)), (1, .inl (fr, fr)), (0, .inr (.inr (1, 57)))], [.inl ((ld c y : Int), (ld c y : Int)), .inr (.inr (1, 66)), .inl (f c, f c), .inl ((ld c y : Int), (ld c y : Int)), .inr (.inr (1, 69))], xWT W f, 0, 0)) xf185_129 rfl ?_
    refine hP.go (r := .inl (132, [(5, .inl ((ld c y : Int), (ld c y : Int))), (4, .inl ((y : Int), (y : Int))), (3, .inl ((c : Int), (c : Int))), (2, .inl (le, le)), (1, .inl (fr, fr)), (0, .inr (.inr (1, 57)))], [.inl (wm (ld c y), wm (ld c y)), .inl (f c, f c), .inl ((ld c y : Int), (ld c y : Int)), .inr (.inr (1, 69))], xWT W f, 0, 0)) xf185_131 (sx_iald h66 (xtl_read hld.1)) ?_
    refine hP.go (r := .inl (133, [(5, .inl ((ld c y : Int), (ld c y : Int))), (4, .inl ((y : Int), (y : Int))), (3, .inl ((c : Int), (c : Int))), (2, .inl (le, le)), (1, .inl (fr, fr)), (0, .inr (.inr (1, 57)))], [.inl (f c + wm (ld c y), f c + wm (ld c y)), .inl ((ld c y : Int), (ld c y : Int)), .inr (.inr (1, 69))], xWT W f, 0, 0)) xf185_132 (sx_iadd (by omega)) ?_
    refine hP.go (r := .inl (134, [(5, .inl ((ld c y : Int), (ld c y : Int))), (4, .inl ((y : Int), (y : Int))), (3, .inl ((c : Int), (c : Int))), (2, .inl (le, le)), (1, .inl (fr, fr)), (0, .inr (.inr (1, 57)))], [], xWT W (xup f (ld c y) (f c + wm (ld c y))), 0, 0)) xf185_133 ((sx_iast hWT (xtl_write hld.1)).trans (by rw [List.set_set])) ?_
    refine hP.go (r := .inl (135, [(5, .inl ((ld c y : Int), (ld c y : Int))), (4, .inl ((y : Int), (y : Int))), (3, .inl ((c : Int), (c : Int))), (2, .inl (le, le)), (1, .inl (fr, fr)), (0, .inr (.inr (1, 57)))], [.inl ((1 : Int), (1 : Int))], xWT W (xup f (ld c y) (f c + wm (ld c y))), 0, 0)) xf185_134 rfl ?_
    refine hP.go (r := .inl (136, [(2, .inl ((1 : Int), (1 : Int))), (5, .inl ((ld c y : Int), (ld c y : Int))), (4, .inl ((y : Int), (y : Int))), (3, .inl ((c : Int), (c : Int))), (1, .inl (fr, fr)), (0, .inr (.inr (1, 57)))], [], xWT W (xup f (ld c y) (f c + wm (ld c y))), 0, 0)) xf185_135 rfl ?_
    refine hP.go (r := .inl (139, [(4, .inl ((y : Int) + 1, (y : Int) + 1)), (2, .inl ((1 : Int), (1 : Int))), (5, .inl ((ld c y : Int), (ld c y : Int))), (3, .inl ((c : Int), (c : Int))), (1, .inl (fr, fr)), (0, .inr (.inr (1, 57)))], [], xWT W (xup f (ld c y) (f c + wm (ld c y))), 0, 0)) xf185_136 (sx_iinc rfl (Nat.le_of_ble_eq_true rfl) (by dsimp only; omega)) ?_
    refine hP.go (r := .inl (63, [(4, .inl ((y : Int) + 1, (y : Int) + 1)), (2, .inl ((1 : Int), (1 : Int))), (5, .inl ((ld c y : Int), (ld c y : Int))), (3, .inl ((c : Int), (c : Int))), (1, .inl (fr, fr)), (0, .inr (.inr (1, 57)))], [], xWT W (xup f (ld c y) (f c + wm (ld c y))), 0, 0)) xf185_139 rfl ?_
    refine hP.sub (lv' := [(4, .inl ((y : Int) + 1, (y : Int) + 1)), (3, .inl ((c : Int), (c : Int))), (2, .inl ((1 : Int), (1 : Int))), (1, .inl (fr, fr)), (0, .inr (.inr (1, 57)))]) (by simp) ?_
    exact k1 hr
  · skip
    refine hP.go (r := .inl (136, [(5, .inl ((ld c y : Int), (ld c y : Int))), (4, .inl ((y : Int), (y : Int))), (3, .inl ((c : Int), (c : Int))), (2, .inl (le, le)), (1, .inl (fr, fr)), (0, .inr (.inr (1, 57)))], [], xWT W f, 0, 0)) xf185_110 (sx_icmp (o := true) (xge_of.trans (by simp; omega))) ?_
    refine hP.go (r := .inl (139, [(4, .inl ((y : Int) + 1, (y : Int) + 1)), (5, .inl ((ld c y : Int), (ld c y : Int))), (3, .inl ((c : Int), (c : Int))), (2, .inl (le, le)), (1, .inl (fr, fr)), (0, .inr (.inr (1, 57)))], [], xWT W f, 0, 0)) xf185_136 (sx_iinc rfl (Nat.le_of_ble_eq_true rfl) (by dsimp only; omega)) ?_
    refine hP.go (r := .inl (63, [(4, .inl ((y : Int) + 1, (y : Int) + 1)), (5, .inl ((ld c y : Int), (ld c y : Int))), (3, .inl ((c : Int), (c : Int))), (2, .inl (le, le)), (1, .inl (fr, fr)), (0, .inr (.inr (1, 57)))], [], xWT W f, 0, 0)) xf185_139 rfl ?_
    refine hP.sub (lv' := [(4, .inl ((y : Int) + 1, (y : Int) + 1)), (3, .inl ((c : Int), (c : Int))), (2, .inl (le, le)), (1, .inl (fr, fr)), (0, .inr (.inr (1, 57)))]) (by simp) ?_
    exact k0 hr
theorem xtm_w5 (hP : XCl (xSt sc xm185) (xJm l D tA ex sc xm185) P) {f : Nat → Int} {c y : Nat} {le : Int} (hc : c < 64) (hy : 4 < y) (k0 : P (.inl (54, [(3, .inl ((c : Int) + 1, (c : Int) + 1)), (2, .inl (le, le)), (1, .inl (fr, fr)), (0, .inr (.inr (1, 57)))], [], xWT W f, 0, 0))) : P (.inl (63, [(4, .inl ((y : Int), (y : Int))), (3, .inl ((c : Int), (c : Int))), (2, .inl (le, le)), (1, .inl (fr, fr)), (0, .inr (.inr (1, 57)))], [], xWT W f, 0, 0)) := by
  refine hP.go (r := .inl (65, [(4, .inl ((y : Int), (y : Int))), (3, .inl ((c : Int), (c : Int))), (2, .inl (le, le)), (1, .inl (fr, fr)), (0, .inr (.inr (1, 57)))], [.inl ((y : Int), (y : Int))], xWT W f, 0, 0)) xf185_63 rfl ?_
  refine hP.go (r := .inl (66, [(4, .inl ((y : Int), (y : Int))), (3, .inl ((c : Int), (c : Int))), (2, .inl (le, le)), (1, .inl (fr, fr)), (0, .inr (.inr (1, 57)))], [.inl ((4 : Int), (4 : Int)), .inl ((y : Int), (y : Int))], xWT W f, 0, 0)) xf185_65 rfl ?_
  refine hP.go (r := .inl (142, [(4, .inl ((y : Int), (y : Int))), (3, .inl ((c : Int), (c : Int))), (2, .inl (le, le)), (1, .inl (fr, fr)), (0, .inr (.inr (1, 57)))], [], xWT W f, 0, 0)) xf185_66 (sx_icmp (o := true) (xgt_of.trans (by simp; omega))) ?_
  refine hP.go (r := .inl (145, [(3, .inl ((c : Int) + 1, (c : Int) + 1)), (4, .inl ((y : Int), (y : Int))), (2, .inl (le, le)), (1, .inl (fr, fr)), (0, .inr (.inr (1, 57)))], [], xWT W f, 0, 0)) xf185_142 (sx_iinc rfl (Nat.le_of_ble_eq_true rfl) (by dsimp only; omega)) ?_
  refine hP.go (r := .inl (54, [(3, .inl ((c : Int) + 1, (c : Int) + 1)), (4, .inl ((y : Int), (y : Int))), (2, .inl (le, le)), (1, .inl (fr, fr)), (0, .inr (.inr (1, 57)))], [], xWT W f, 0, 0)) xf185_145 rfl ?_
  refine hP.sub (lv' := [(3, .inl ((c : Int) + 1, (c : Int) + 1)), (2, .inl (le, le)), (1, .inl (fr, fr)), (0, .inr (.inr (1, 57)))]) (by simp) ?_
  exact k0
theorem xtm_w6 (hP : XCl (xSt sc xm185) (xJm l D tA ex sc xm185) P) (hH : xTH sc W fs wm ld) {f : Nat → Int} {c y : Nat} {le : Int} (hc : c < 64) (hy : y ≤ 4) (hlt : ¬ f c < 100000) (k0 : P (.inl (54, [(3, .inl ((c : Int) + 1, (c : Int) + 1)), (2, .inl (le, le)), (1, .inl (fr, fr)), (0, .inr (.inr (1, 57)))], [], xWT W f, 0, 0))) : P (.inl (63, [(4, .inl ((y : Int), (y : Int))), (3, .inl ((c : Int), (c : Int))), (2, .inl (le, le)), (1, .inl (fr, fr)), (0, .inr (.inr (1, 57)))], [], xWT W f, 0, 0)) := by
  obtain ⟨g57, hT, hR, hM, g66, h69, hwm, hld⟩ := hH
  have h57 : (xWT W (f))[57]? = some (.inl (10, fs)) := xset_get (by decide) g57
  have h66 : (xWT W (f))[66]? = some (.inr (0, xtl 64 wm)) := xset_get (by decide) g66
  have hWT : (xWT W (f))[69]? = some (.inr (0, xtl 64 (f))) := xset_at h69
  refine hP.go (r := .inl (65, [(4, .inl ((y : Int), (y : Int))), (3, .inl ((c : Int), (c : Int))), (2, .inl (le, le)), (1, .inl (fr, fr)), (0, .inr (.inr (1, 57)))], [.inl ((y : Int), (y : Int))], xWT W f, 0, 0)) xf185_63 rfl ?_
  refine hP.go (r := .inl (66, [(4, .inl ((y : Int), (y : Int))), (3, .inl ((c : Int), (c : Int))), (2, .inl (le, le)), (1, .inl (fr, fr)), (0, .inr (.inr (1, 57)))], [.inl ((4 : Int), (4 : Int)), .inl ((y : Int), (y : Int))], xWT W f, 0, 0)) xf185_65 rfl ?_
  refine hP.go (r := .inl (69, [(4, .inl ((y : Int), (y : Int))), (3, .inl ((c : Int), (c : Int))), (2, .inl (le, le)), (1, .inl (fr, fr)), (0, .inr (.inr (1, 57)))], [], xWT W f, 0, 0)) xf185_66 (sx_icmp (o := false) (xgt_of.trans (by simp; omega))) ?_
  refine hP.go (r := .inl (70, [(4, .inl ((y : Int), (y : Int))), (3, .inl ((c : Int), (c : Int))), (2, .inl (le, le)), (1, .inl (fr, fr)), (0, .inr (.inr (1, 57)))], [.inr (.inr (1, 57))], xWT W f, 0, 0)) xf185_69 rfl ?_
  refine hP.go (r := .inl (73, [(4, .inl ((y : Int), (y : Int))), (3, .inl ((c : Int), (c : Int))), (2, .inl (le, le)), (1, .inl (fr, fr)), (0, .inr (.inr (1, 57)))], [.inr (.inr (1, 69))], xWT W f, 0, 0)) xf185_70 (sx_get h57 hT) ?_
  refine hP.go (r := .inl (74, [(4, .inl ((y : Int), (y : Int))), (3, .inl ((c : Int), (c : Int))), (2, .inl (le, le)), (1, .inl (fr, fr)), (0, .inr (.inr (1, 57)))], [.inl ((c : Int), (c : Int)), .inr (.inr (1, 69))], xWT W f, 0, 0)) xf185_73 rfl ?_
  refine hP.go (r := .inl (75, [(4, .inl ((y : Int), (y : Int))), (3, .inl ((c : Int), (c : Int))), (2, .inl (le, le)), (1, .inl (fr, fr)), (0, .inr (.inr (1, 57)))], [.inl (f c, f c)], xWT W f, 0, 0)) xf185_74 (sx_iald hWT (xtl_read hc)) ?_
  refine hP.go (r := .inl (77, [(4, .inl ((y : Int), (y : Int))), (3, .inl ((c : Int), (c : Int))), (2, .inl (le, le)), (1, .inl (fr, fr)), (0, .inr (.inr (1, 57)))], [.inl ((100000 : Int), (100000 : Int)), .inl (f c, f c)], xWT W f, 0, 0)) xf185_75 rfl ?_
  refine hP.go (r := .inl (142, [(4, .inl ((y : Int), (y : Int))), (3, .inl ((c : Int), (c : Int))), (2, .inl (le, le)), (1, .inl (fr, fr)), (0, .inr (.inr (1, 57)))], [], xWT W f, 0, 0)) xf185_77 (sx_icmp (o := true) (xge_of.trans (by simp; omega))) ?_
  refine hP.go (r := .inl (145, [(3, .inl ((c : Int) + 1, (c : Int) + 1)), (4, .inl ((y : Int), (y : Int))), (2, .inl (le, le)), (1, .inl (fr, fr)), (0, .inr (.inr (1, 57)))], [], xWT W f, 0, 0)) xf185_142 (sx_iinc rfl (Nat.le_of_ble_eq_true rfl) (by dsimp only; omega)) ?_
  refine hP.go (r := .inl (54, [(3, .inl ((c : Int) + 1, (c : Int) + 1)), (4, .inl ((y : Int), (y : Int))), (2, .inl (le, le)), (1, .inl (fr, fr)), (0, .inr (.inr (1, 57)))], [], xWT W f, 0, 0)) xf185_145 rfl ?_
  refine hP.sub (lv' := [(3, .inl ((c : Int) + 1, (c : Int) + 1)), (2, .inl (le, le)), (1, .inl (fr, fr)), (0, .inr (.inr (1, 57)))]) (by simp) ?_
  exact k0
def xstab (ld : Nat → Nat → Nat) (wm f : Nat → Int) (c y : Nat) : Prop := f c < 100000 → f (ld c y) ≤ f c + wm (ld c y)
def xJ1 (J : (Nat → Int) → Prop) (ld : Nat → Nat → Nat) (wm : Nat → Int) : Prop := (∀ f, J f → ∀ i, i < 64 → 0 ≤ f i ∧ f i ≤ 100000) ∧ ∀ f c y, J f → c < 64 → 1 ≤ y → y ≤ 4 → f c < 100000 → f c + wm (ld c y) < f (ld c y) → J (xup f (ld c y) (f c + wm (ld c y)))
def xG (J : (Nat → Int) → Prop) (ld : Nat → Nat → Nat) (wm f0 f : Nat → Int) (le : Int) (c y : Nat) : Prop := J f ∧ ((le = 1 ∧ xsum 64 f < xsum 64 f0) ∨ (le = 0 ∧ f = f0 ∧ (∀ c', c' < c → ∀ z, 1 ≤ z → z ≤ 4 → xstab ld wm f0 c' z) ∧ ∀ z, 1 ≤ z → z < y → xstab ld wm f0 c z))
theorem xG.next {J : (Nat → Int) → Prop} {f0 f : Nat → Int} {le : Int} {c y : Nat} (h : xG J ld wm f0 f le c y) (hs : ∀ z, 1 ≤ z → y ≤ z → z ≤ 4 → xstab ld wm f c z) : xG J ld wm f0 f le (c + 1) 1 := by
  obtain ⟨hJ, h | ⟨h1, h2, h3, h4⟩⟩ := h
  · exact ⟨hJ, Or.inl h⟩
  · refine ⟨hJ, Or.inr ⟨h1, h2, fun c' hc' z z1 z4 => ?_, fun z z1 z2 => by omega⟩⟩
    by_cases hcc : c' < c
    · exact h3 c' hcc z z1 z4
    · have : c' = c := by omega
      subst this
      by_cases hz : z < y
      · exact h4 z z1 hz
      · rw [← h2]
        exact hs z z1 (by omega) z4
theorem xtm_ways (hP : XCl (xSt sc xm185) (xJm l D tA ex sc xm185) P) (hH : xTH sc W fs wm ld) {J : (Nat → Int) → Prop} (hJ : xJ1 J ld wm) {f0 : Nat → Int} {c : Nat} (hc : c < 64) (hK : ∀ f le, xG J ld wm f0 f le (c + 1) 1 → P (.inl (54, [(3, .inl ((c : Int) + 1, (c : Int) + 1)), (2, .inl (le, le)), (1, .inl (fr, fr)), (0, .inr (.inr (1, 57)))], [], xWT W f, 0, 0))) : ∀ (d y : Nat) (f : Nat → Int) (le : Int), 5 - y = d → 1 ≤ y → y ≤ 5 → xG J ld wm f0 f le c y → P (.inl (63, [(4, .inl ((y : Int), (y : Int))), (3, .inl ((c : Int), (c : Int))), (2, .inl (le, le)), (1, .inl (fr, fr)), (0, .inr (.inr (1, 57)))], [], xWT W f, 0, 0))
  | 0, y, f, le, hd, hy1, hy5, hG => xtm_w5 hP hc (by omega) (hK f le (hG.next (fun z z1 z2 z3 => by omega)))
  | d + 1, y, f, le, hd, hy1, hy5, hG => by
    have hf := hJ.1 f hG.1
    by_cases hlt : f c < 100000
    · refine xtm_iter hP hH hc hy1 (by omega) hf hlt (fun hr => ?_) (fun hr => ?_)
      · refine xtm_ways hP hH hJ hc hK d (y + 1) _ 1 (by omega) (by omega) (by omega) ⟨hJ.2 f c y hG.1 hc hy1 (by omega) hlt hr, Or.inl ⟨rfl, ?_⟩⟩
        have hl := hH.2.2.2.2.2.2.2 c y hc hy1 (by omega)
        rw [xsum_up hl.1]
        rcases hG.2 with h | h
        · have := h.2
          omega
        · rw [h.2.1] at hr ⊢
          omega
      · refine xtm_ways hP hH hJ hc hK d (y + 1) f le (by omega) (by omega) (by omega) ⟨hG.1, ?_⟩
        rcases hG.2 with h | ⟨h1, h2, h3, h4⟩
        · exact Or.inl h
        · refine Or.inr ⟨h1, h2, h3, fun z z1 z2 => ?_⟩
          by_cases hz : z < y
          · exact h4 z z1 hz
          · have : z = y := by omega
            subst this
            rw [← h2]
            exact fun _ => Int.not_lt.mp hr
    · exact xtm_w6 hP hH hc (by omega) hlt (hK f le (hG.next (fun z _ _ _ => fun h => absurd h hlt)))
theorem xtm_c0 (hP : XCl (xSt sc xm185) (xJm l D tA ex sc xm185) P) {f : Nat → Int} {c : Nat} {le : Int} (hc : c < 64) (k0 : P (.inl (63, [(4, .inl ((1 : Int), (1 : Int))), (3, .inl ((c : Int), (c : Int))), (2, .inl (le, le)), (1, .inl (fr, fr)), (0, .inr (.inr (1, 57)))], [], xWT W f, 0, 0))) : P (.inl (54, [(3, .inl ((c : Int), (c : Int))), (2, .inl (le, le)), (1, .inl (fr, fr)), (0, .inr (.inr (1, 57)))], [], xWT W f, 0, 0)) := by
  refine hP.go (r := .inl (55, [(3, .inl ((c : Int), (c : Int))), (2, .inl (le, le)), (1, .inl (fr, fr)), (0, .inr (.inr (1, 57)))], [.inl ((c : Int), (c : Int))], xWT W f, 0, 0)) xf185_54 rfl ?_
  refine hP.go (r := .inl (57, [(3, .inl ((c : Int), (c : Int))), (2, .inl (le, le)), (1, .inl (fr, fr)), (0, .inr (.inr (1, 57)))], [.inl ((64 : Int), (64 : Int)), .inl ((c : Int), (c : Int))], xWT W f, 0, 0)) xf185_55 rfl ?_
  refine hP.go (r := .inl (60, [(3, .inl ((c : Int), (c : Int))), (2, .inl (le, le)), (1, .inl (fr, fr)), (0, .inr (.inr (1, 57)))], [], xWT W f, 0, 0)) xf185_57 (sx_icmp (o := false) (xge_of.trans (by simp; omega))) ?_
  refine hP.go (r := .inl (61, [(3, .inl ((c : Int), (c : Int))), (2, .inl (le, le)), (1, .inl (fr, fr)), (0, .inr (.inr (1, 57)))], [.inl ((1 : Int), (1 : Int))], xWT W f, 0, 0)) xf185_60 rfl ?_
  refine hP.go (r := .inl (63, [(4, .inl ((1 : Int), (1 : Int))), (3, .inl ((c : Int), (c : Int))), (2, .inl (le, le)), (1, .inl (fr, fr)), (0, .inr (.inr (1, 57)))], [], xWT W f, 0, 0)) xf185_61 rfl ?_
  exact k0
theorem xtm_c1 (hP : XCl (xSt sc xm185) (xJm l D tA ex sc xm185) P) {f : Nat → Int} {c : Nat} {le : Int} (hc : 64 ≤ c) (k0 : P (.inl (46, [(2, .inl (le, le)), (1, .inl (fr, fr)), (0, .inr (.inr (1, 57)))], [], xWT W f, 0, 0))) : P (.inl (54, [(3, .inl ((c : Int), (c : Int))), (2, .inl (le, le)), (1, .inl (fr, fr)), (0, .inr (.inr (1, 57)))], [], xWT W f, 0, 0)) := by
  refine hP.go (r := .inl (55, [(3, .inl ((c : Int), (c : Int))), (2, .inl (le, le)), (1, .inl (fr, fr)), (0, .inr (.inr (1, 57)))], [.inl ((c : Int), (c : Int))], xWT W f, 0, 0)) xf185_54 rfl ?_
  refine hP.go (r := .inl (57, [(3, .inl ((c : Int), (c : Int))), (2, .inl (le, le)), (1, .inl (fr, fr)), (0, .inr (.inr (1, 57)))], [.inl ((64 : Int), (64 : Int)), .inl ((c : Int), (c : Int))], xWT W f, 0, 0)) xf185_55 rfl ?_
  refine hP.go (r := .inl (148, [(3, .inl ((c : Int), (c : Int))), (2, .inl (le, le)), (1, .inl (fr, fr)), (0, .inr (.inr (1, 57)))], [], xWT W f, 0, 0)) xf185_57 (sx_icmp (o := true) (xge_of.trans (by simp; omega))) ?_
  refine hP.go (r := .inl (46, [(3, .inl ((c : Int), (c : Int))), (2, .inl (le, le)), (1, .inl (fr, fr)), (0, .inr (.inr (1, 57)))], [], xWT W f, 0, 0)) xf185_148 rfl ?_
  refine hP.sub (lv' := [(2, .inl (le, le)), (1, .inl (fr, fr)), (0, .inr (.inr (1, 57)))]) (by simp) ?_
  exact k0
theorem xtm_cells (hP : XCl (xSt sc xm185) (xJm l D tA ex sc xm185) P) (hH : xTH sc W fs wm ld) {J : (Nat → Int) → Prop} (hJ : xJ1 J ld wm) {f0 : Nat → Int} (hK : ∀ f le, xG J ld wm f0 f le 64 1 → P (.inl (46, [(2, .inl (le, le)), (1, .inl (fr, fr)), (0, .inr (.inr (1, 57)))], [], xWT W f, 0, 0))) : ∀ (d c : Nat) (f : Nat → Int) (le : Int), 64 - c = d → c ≤ 64 → xG J ld wm f0 f le c 1 → P (.inl (54, [(3, .inl ((c : Int), (c : Int))), (2, .inl (le, le)), (1, .inl (fr, fr)), (0, .inr (.inr (1, 57)))], [], xWT W f, 0, 0))
  | 0, c, f, le, hd, hc, hG => by
    have : c = 64 := by omega
    subst this
    exact xtm_c1 hP (by omega) (hK f le hG)
  | d + 1, c, f, le, hd, hc, hG => xtm_c0 hP (by omega) (xtm_ways hP hH hJ (show c < 64 by omega) (fun f le h => xtm_cells hP hH hJ hK d (c + 1) f le (by omega) (by omega) h) 4 1 f le rfl (by omega) (by omega) hG)
theorem xtm_w1 (hP : XCl (xSt sc xm185) (xJm l D tA ex sc xm185) P) {f : Nat → Int} (k0 : P (.inl (54, [(3, .inl ((0 : Int), (0 : Int))), (2, .inl ((0 : Int), (0 : Int))), (1, .inl (fr, fr)), (0, .inr (.inr (1, 57)))], [], xWT W f, 0, 0))) : P (.inl (46, [(2, .inl ((1 : Int), (1 : Int))), (1, .inl (fr, fr)), (0, .inr (.inr (1, 57)))], [], xWT W f, 0, 0)) := by
  refine hP.go (r := .inl (47, [(2, .inl ((1 : Int), (1 : Int))), (1, .inl (fr, fr)), (0, .inr (.inr (1, 57)))], [.inl ((1 : Int), (1 : Int))], xWT W f, 0, 0)) xf185_46 rfl ?_
  refine hP.go (r := .inl (50, [(2, .inl ((1 : Int), (1 : Int))), (1, .inl (fr, fr)), (0, .inr (.inr (1, 57)))], [], xWT W f, 0, 0)) xf185_47 (sx_if (o := false) rfl) ?_
  refine hP.go (r := .inl (51, [(2, .inl ((1 : Int), (1 : Int))), (1, .inl (fr, fr)), (0, .inr (.inr (1, 57)))], [.inl ((0 : Int), (0 : Int))], xWT W f, 0, 0)) xf185_50 rfl ?_
  refine hP.go (r := .inl (52, [(2, .inl ((0 : Int), (0 : Int))), (1, .inl (fr, fr)), (0, .inr (.inr (1, 57)))], [], xWT W f, 0, 0)) xf185_51 rfl ?_
  refine hP.go (r := .inl (53, [(2, .inl ((0 : Int), (0 : Int))), (1, .inl (fr, fr)), (0, .inr (.inr (1, 57)))], [.inl ((0 : Int), (0 : Int))], xWT W f, 0, 0)) xf185_52 rfl ?_
  refine hP.go (r := .inl (54, [(3, .inl ((0 : Int), (0 : Int))), (2, .inl ((0 : Int), (0 : Int))), (1, .inl (fr, fr)), (0, .inr (.inr (1, 57)))], [], xWT W f, 0, 0)) xf185_53 rfl ?_
  refine hP.sub (lv' := [(3, .inl ((0 : Int), (0 : Int))), (2, .inl ((0 : Int), (0 : Int))), (1, .inl (fr, fr)), (0, .inr (.inr (1, 57)))]) (by simp) ?_
  exact k0
theorem xtm_w0 (hP : XCl (xSt sc xm185) (xJm l D tA ex sc xm185) P) {f : Nat → Int} (k0 : P (.inr (none, xWT W f, 0, 0))) : P (.inl (46, [(2, .inl ((0 : Int), (0 : Int))), (1, .inl (fr, fr)), (0, .inr (.inr (1, 57)))], [], xWT W f, 0, 0)) := by
  refine hP.go (r := .inl (47, [(2, .inl ((0 : Int), (0 : Int))), (1, .inl (fr, fr)), (0, .inr (.inr (1, 57)))], [.inl ((0 : Int), (0 : Int))], xWT W f, 0, 0)) xf185_46 rfl ?_
  refine hP.go (r := .inl (151, [(2, .inl ((0 : Int), (0 : Int))), (1, .inl (fr, fr)), (0, .inr (.inr (1, 57)))], [], xWT W f, 0, 0)) xf185_47 (sx_if (o := true) rfl) ?_
  exact hP.go (r := .inr (none, xWT W f, 0, 0)) xf185_151 rfl k0
theorem xtm_while (hP : XCl (xSt sc xm185) (xJm l D tA ex sc xm185) P) (hH : xTH sc W fs wm ld) {J : (Nat → Int) → Prop} (hJ : xJ1 J ld wm) (hF : ∀ f, J f → (∀ c y, c < 64 → 1 ≤ y → y ≤ 4 → xstab ld wm f c y) → P (.inr (none, xWT W f, 0, 0))) : ∀ (d : Nat) (f : Nat → Int), J f → (xsum 64 f).toNat < d → P (.inl (46, [(2, .inl ((1 : Int), (1 : Int))), (1, .inl (fr, fr)), (0, .inr (.inr (1, 57)))], [], xWT W f, 0, 0))
  | 0, f, _, h => by omega
  | d + 1, f, hf, hd => by
    have hk : ∀ g le, xG J ld wm f g le 64 1 → P (.inl (46, [(2, .inl (le, le)), (1, .inl (fr, fr)), (0, .inr (.inr (1, 57)))], [], xWT W g, 0, 0)) := fun g le hG => by
      rcases hG.2 with ⟨h1, h2⟩ | ⟨h1, h2, h3, _⟩
      · subst h1
        have n1 := xsum_nn (n := 64) (f := g) (fun i hi => (hJ.1 g hG.1 i hi).1)
        exact xtm_while hP hH hJ hF d g hG.1 (by omega)
      · subst h1
        subst h2
        exact xtm_w0 hP (hF g hG.1 (fun c y hc y1 y4 => h3 c hc y y1 y4))
    exact xtm_w1 hP (xtm_cells hP hH hJ hk 64 0 f 0 rfl (by omega) ⟨hf, Or.inr ⟨rfl, rfl, fun c' h => by omega, fun z h1 h2 => by omega⟩⟩)
theorem xtm_i0 (hP : XCl (xSt sc xm185) (xJm l D tA ex sc xm185) P) (hH : xTH sc W fs wm ld) {g : Nat → Int} {c a : Nat} (hc : c < 64) (k0 : P (.inl (2, [(2, .inl ((c : Int) + 1, (c : Int) + 1)), (0, .inr (.inr (1, 57))), (1, .inl ((a : Int), (a : Int)))], [], xWT W (xup g c (if c = a then 0 else 100000)), 0, 0))) : P (.inl (2, [(2, .inl ((c : Int), (c : Int))), (0, .inr (.inr (1, 57))), (1, .inl ((a : Int), (a : Int)))], [], xWT W g, 0, 0)) := by
  obtain ⟨g57, hT, hR, hM, g66, h69, hwm, hld⟩ := hH
  have h57 : (xWT W (g))[57]? = some (.inl (10, fs)) := xset_get (by decide) g57
  have h66 : (xWT W (g))[66]? = some (.inr (0, xtl 64 wm)) := xset_get (by decide) g66
  have hWT : (xWT W (g))[69]? = some (.inr (0, xtl 64 (g))) := xset_at h69
  refine hP.go (r := .inl (3, [(2, .inl ((c : Int), (c : Int))), (0, .inr (.inr (1, 57))), (1, .inl ((a : Int), (a : Int)))], [.inl ((c : Int), (c : Int))], xWT W g, 0, 0)) xf185_2 rfl ?_
  refine hP.go (r := .inl (5, [(2, .inl ((c : Int), (c : Int))), (0, .inr (.inr (1, 57))), (1, .inl ((a : Int), (a : Int)))], [.inl ((64 : Int), (64 : Int)), .inl ((c : Int), (c : Int))], xWT W g, 0, 0)) xf185_3 rfl ?_
  refine hP.go (r := .inl (8, [(2, .inl ((c : Int), (c : Int))), (0, .inr (.inr (1, 57))), (1, .inl ((a : Int), (a : Int)))], [], xWT W g, 0, 0)) xf185_5 (sx_icmp (o := false) (xge_of.trans (by simp; omega))) ?_
  refine hP.go (r := .inl (9, [(2, .inl ((c : Int), (c : Int))), (0, .inr (.inr (1, 57))), (1, .inl ((a : Int), (a : Int)))], [.inr (.inr (1, 57))], xWT W g, 0, 0)) xf185_8 rfl ?_
  refine hP.go (r := .inl (12, [(2, .inl ((c : Int), (c : Int))), (0, .inr (.inr (1, 57))), (1, .inl ((a : Int), (a : Int)))], [.inr (.inr (1, 69))], xWT W g, 0, 0)) xf185_9 (sx_get h57 hT) ?_
  refine hP.go (r := .inl (13, [(2, .inl ((c : Int), (c : Int))), (0, .inr (.inr (1, 57))), (1, .inl ((a : Int), (a : Int)))], [.inl ((c : Int), (c : Int)), .inr (.inr (1, 69))], xWT W g, 0, 0)) xf185_12 rfl ?_
  refine hP.go (r := .inl (14, [(2, .inl ((c : Int), (c : Int))), (0, .inr (.inr (1, 57))), (1, .inl ((a : Int), (a : Int)))], [.inl ((c : Int), (c : Int)), .inl ((c : Int), (c : Int)), .inr (.inr (1, 69))], xWT W g, 0, 0)) xf185_13 rfl ?_
  refine hP.go (r := .inl (15, [(2, .inl ((c : Int), (c : Int))), (0, .inr (.inr (1, 57))), (1, .inl ((a : Int), (a : Int)))], [.inl ((a : Int), (a : Int)), .inl ((c : Int), (c : Int)), .inl ((c : Int), (c : Int)), .inr (.inr (1, 69))], xWT W g, 0, 0)) xf185_14 rfl ?_
  by_cases ha : c = a
  · rw [if_pos ha] at k0
    refine hP.go (r := .inl (18, [(2, .inl ((c : Int), (c : Int))), (0, .inr (.inr (1, 57))), (1, .inl ((a : Int), (a : Int)))], [.inl ((c : Int), (c : Int)), .inr (.inr (1, 69))], xWT W g, 0, 0)) xf185_15 (sx_icmp (o := false) (xcne_of.trans (by simp; omega))) ?_
    refine hP.go (r := .inl (19, [(2, .inl ((c : Int), (c : Int))), (0, .inr (.inr (1, 57))), (1, .inl ((a : Int), (a : Int)))], [.inl ((0 : Int), (0 : Int)), .inl ((c : Int), (c : Int)), .inr (.inr (1, 69))], xWT W g, 0, 0)) xf185_18 rfl ?_
    refine hP.go (r := .inl (24, [(2, .inl ((c : Int), (c : Int))), (0, .inr (.inr (1, 57))), (1, .inl ((a : Int), (a : Int)))], [.inl ((0 : Int), (0 : Int)), .inl ((c : Int), (c : Int)), .inr (.inr (1, 69))], xWT W g, 0, 0)) xf185_19 rfl ?_
    refine hP.go (r := .inl (25, [(2, .inl ((c : Int), (c : Int))), (0, .inr (.inr (1, 57))), (1, .inl ((a : Int), (a : Int)))], [], xWT W (xup g c 0), 0, 0)) xf185_24 ((sx_iast hWT (xtl_write hc)).trans (by rw [List.set_set])) ?_
    refine hP.go (r := .inl (28, [(2, .inl ((c : Int) + 1, (c : Int) + 1)), (0, .inr (.inr (1, 57))), (1, .inl ((a : Int), (a : Int)))], [], xWT W (xup g c 0), 0, 0)) xf185_25 (sx_iinc rfl (Nat.le_of_ble_eq_true rfl) (by dsimp only; omega)) ?_
    refine hP.go (r := .inl (2, [(2, .inl ((c : Int) + 1, (c : Int) + 1)), (0, .inr (.inr (1, 57))), (1, .inl ((a : Int), (a : Int)))], [], xWT W (xup g c 0), 0, 0)) xf185_28 rfl ?_
    exact k0
  · rw [if_neg ha] at k0
    refine hP.go (r := .inl (22, [(2, .inl ((c : Int), (c : Int))), (0, .inr (.inr (1, 57))), (1, .inl ((a : Int), (a : Int)))], [.inl ((c : Int), (c : Int)), .inr (.inr (1, 69))], xWT W g, 0, 0)) xf185_15 (sx_icmp (o := true) (xcne_of.trans (by simp; omega))) ?_
    refine hP.go (r := .inl (24, [(2, .inl ((c : Int), (c : Int))), (0, .inr (.inr (1, 57))), (1, .inl ((a : Int), (a : Int)))], [.inl ((100000 : Int), (100000 : Int)), .inl ((c : Int), (c : Int)), .inr (.inr (1, 69))], xWT W g, 0, 0)) xf185_22 rfl ?_
    refine hP.go (r := .inl (25, [(2, .inl ((c : Int), (c : Int))), (0, .inr (.inr (1, 57))), (1, .inl ((a : Int), (a : Int)))], [], xWT W (xup g c 100000), 0, 0)) xf185_24 ((sx_iast hWT (xtl_write hc)).trans (by rw [List.set_set])) ?_
    refine hP.go (r := .inl (28, [(2, .inl ((c : Int) + 1, (c : Int) + 1)), (0, .inr (.inr (1, 57))), (1, .inl ((a : Int), (a : Int)))], [], xWT W (xup g c 100000), 0, 0)) xf185_25 (sx_iinc rfl (Nat.le_of_ble_eq_true rfl) (by dsimp only; omega)) ?_
    refine hP.go (r := .inl (2, [(2, .inl ((c : Int) + 1, (c : Int) + 1)), (0, .inr (.inr (1, 57))), (1, .inl ((a : Int), (a : Int)))], [], xWT W (xup g c 100000), 0, 0)) xf185_28 rfl ?_
    exact k0
theorem xtm_i1 (hP : XCl (xSt sc xm185) (xJm l D tA ex sc xm185) P) (hH : xTH sc W fs wm ld) (g64 : W[64]? = some (.inr (2, xtl 64 (fun _ => 0)))) {g : Nat → Int} {c a : Nat} (hc : 64 ≤ c) (ha : a < 64) (k0 : P (.inl (46, [(2, .inl ((1 : Int), (1 : Int))), (1, .inl ((a : Int), (a : Int))), (0, .inr (.inr (1, 57)))], [], xWT W g, 0, 0))) : P (.inl (2, [(2, .inl ((c : Int), (c : Int))), (0, .inr (.inr (1, 57))), (1, .inl ((a : Int), (a : Int)))], [], xWT W g, 0, 0)) := by
  obtain ⟨g57, hT, hR, hM, g66, h69, hwm, hld⟩ := hH
  have h57 : (xWT W (g))[57]? = some (.inl (10, fs)) := xset_get (by decide) g57
  have h66 : (xWT W (g))[66]? = some (.inr (0, xtl 64 wm)) := xset_get (by decide) g66
  have hWT : (xWT W (g))[69]? = some (.inr (0, xtl 64 (g))) := xset_at h69
  have h64 : (xWT W g)[64]? = some (.inr (2, xtl 64 (fun _ => 0))) := xset_get (by decide) g64
  refine hP.go (r := .inl (3, [(2, .inl ((c : Int), (c : Int))), (0, .inr (.inr (1, 57))), (1, .inl ((a : Int), (a : Int)))], [.inl ((c : Int), (c : Int))], xWT W g, 0, 0)) xf185_2 rfl ?_
  refine hP.go (r := .inl (5, [(2, .inl ((c : Int), (c : Int))), (0, .inr (.inr (1, 57))), (1, .inl ((a : Int), (a : Int)))], [.inl ((64 : Int), (64 : Int)), .inl ((c : Int), (c : Int))], xWT W g, 0, 0)) xf185_3 rfl ?_
  refine hP.go (r := .inl (31, [(2, .inl ((c : Int), (c : Int))), (0, .inr (.inr (1, 57))), (1, .inl ((a : Int), (a : Int)))], [], xWT W g, 0, 0)) xf185_5 (sx_icmp (o := true) (xge_of.trans (by simp; omega))) ?_
  refine hP.go (r := .inl (32, [(2, .inl ((c : Int), (c : Int))), (0, .inr (.inr (1, 57))), (1, .inl ((a : Int), (a : Int)))], [.inr (.inr (1, 57))], xWT W g, 0, 0)) xf185_31 rfl ?_
  refine hP.go (r := .inl (35, [(2, .inl ((c : Int), (c : Int))), (0, .inr (.inr (1, 57))), (1, .inl ((a : Int), (a : Int)))], [.inr (.inr (1, 64))], xWT W g, 0, 0)) xf185_32 (sx_get h57 hR) ?_
  refine hP.go (r := .inl (36, [(2, .inl ((c : Int), (c : Int))), (0, .inr (.inr (1, 57))), (1, .inl ((a : Int), (a : Int)))], [.inl ((a : Int), (a : Int)), .inr (.inr (1, 64))], xWT W g, 0, 0)) xf185_35 rfl ?_
  refine hP.go (r := .inl (37, [(2, .inl ((c : Int), (c : Int))), (0, .inr (.inr (1, 57))), (1, .inl ((a : Int), (a : Int)))], [.inl ((0 : Int), (0 : Int))], xWT W g, 0, 0)) xf185_36 (sx_bald h64 (xtl_read ha)) ?_
  refine hP.go (r := .inl (40, [(2, .inl ((c : Int), (c : Int))), (0, .inr (.inr (1, 57))), (1, .inl ((a : Int), (a : Int)))], [], xWT W g, 0, 0)) xf185_37 (sx_if (o := false) rfl) ?_
  refine hP.go (r := .inl (41, [(2, .inl ((c : Int), (c : Int))), (0, .inr (.inr (1, 57))), (1, .inl ((a : Int), (a : Int)))], [.inl ((1 : Int), (1 : Int))], xWT W g, 0, 0)) xf185_40 rfl ?_
  refine hP.go (r := .inl (45, [(2, .inl ((c : Int), (c : Int))), (0, .inr (.inr (1, 57))), (1, .inl ((a : Int), (a : Int)))], [.inl ((1 : Int), (1 : Int))], xWT W g, 0, 0)) xf185_41 rfl ?_
  refine hP.go (r := .inl (46, [(2, .inl ((1 : Int), (1 : Int))), (0, .inr (.inr (1, 57))), (1, .inl ((a : Int), (a : Int)))], [], xWT W g, 0, 0)) xf185_45 rfl ?_
  refine hP.sub (lv' := [(2, .inl ((1 : Int), (1 : Int))), (1, .inl ((a : Int), (a : Int))), (0, .inr (.inr (1, 57)))]) (by simp) ?_
  exact k0
def xini (a : Nat) (g : Nat → Int) (c : Nat) : Nat → Int := fun i => if i < c then (if i = a then 0 else 100000) else g i
theorem xini_up {a : Nat} {g : Nat → Int} {c : Nat} : xup (xini a g c) c (if c = a then 0 else 100000) = xini a g (c + 1) := by
  funext i
  unfold xup xini
  by_cases h : i = c
  · subst h
    rw [if_pos rfl, if_pos (show i < i + 1 from Nat.lt_succ_self i)]
  · rw [if_neg h]
    by_cases h2 : i < c
    · rw [if_pos h2, if_pos (show i < c + 1 by omega)]
    · rw [if_neg h2, if_neg (show ¬ i < c + 1 by omega)]
theorem xtm_init (hP : XCl (xSt sc xm185) (xJm l D tA ex sc xm185) P) (hH : xTH sc W fs wm ld) (g64 : W[64]? = some (.inr (2, xtl 64 (fun _ => 0)))) {a : Nat} (ha : a < 64) {g : Nat → Int} (k0 : P (.inl (46, [(2, .inl ((1 : Int), (1 : Int))), (1, .inl ((a : Int), (a : Int))), (0, .inr (.inr (1, 57)))], [], xWT W (xini a g 64), 0, 0))) : ∀ (d c : Nat), 64 - c = d → c ≤ 64 → P (.inl (2, [(2, .inl ((c : Int), (c : Int))), (0, .inr (.inr (1, 57))), (1, .inl ((a : Int), (a : Int)))], [], xWT W (xini a g c), 0, 0))
  | 0, c, hd, hc => by
    have : c = 64 := by omega
    subst this
    exact xtm_i1 hP hH g64 (by omega) ha k0
  | d + 1, c, hd, hc => by
    refine xtm_i0 hP hH (show c < 64 by omega) ?_
    rw [xini_up]
    exact xtm_init hP hH g64 ha k0 d (c + 1) (by omega) (by omega)
theorem xini_0 {a : Nat} {g : Nat → Int} : xini a g 0 = g := by
  funext i
  unfold xini
  rw [if_neg (by omega)]
/-- setTimes, from its entry -/
theorem xtm_all (hP : XCl (xSt sc xm185) (xJm l D tA ex sc xm185) P) (hH : xTH sc W fs wm ld) (g64 : W[64]? = some (.inr (2, xtl 64 (fun _ => 0)))) {J : (Nat → Int) → Prop} (hJ : xJ1 J ld wm) {a : Nat} (ha : a < 64) {g : Nat → Int} (h0 : J (xini a g 64)) (hF : ∀ f, J f → (∀ c y, c < 64 → 1 ≤ y → y ≤ 4 → xstab ld wm f c y) → P (.inr (none, xWT W f, 0, 0))) : P (.inl (0, [(0, .inr (.inr (1, 57))), (1, .inl ((a : Int), (a : Int)))], [], xWT W g, 0, 0)) := by
  refine hP.go (r := .inl (1, [(0, .inr (.inr (1, 57))), (1, .inl ((a : Int), (a : Int)))], [.inl ((0 : Int), (0 : Int))], xWT W g, 0, 0)) xf185_0 rfl ?_
  refine hP.go (r := .inl (2, [(2, .inl ((0 : Int), (0 : Int))), (0, .inr (.inr (1, 57))), (1, .inl ((a : Int), (a : Int)))], [], xWT W g, 0, 0)) xf185_1 rfl ?_
  have h := xtm_init hP hH g64 ha (g := g) (xtm_while hP hH hJ hF _ _ h0 (Nat.lt_succ_self _)) 64 0 rfl (by omega)
  rw [xini_0] at h
  exact h
end XTM
