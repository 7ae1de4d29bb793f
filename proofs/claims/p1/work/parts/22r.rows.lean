/-! ===== ops 0 and 5: row and text, by steps ===== -/
theorem sx_put {cf : XF} {MT : Nat → Option XM} {FT : Nat → Nat → Option FieldType} {FD : Nat → Option (List XV)} {TY : Nat → Option FieldType} {TC : Nat → Option Nat} {exc : List (List XV)} {M : XM} {pc : Nat} {lv : XL} {st : List XV} {w : XW} {k n : Nat} {i a b : Nat} {z : Int} {q : Nat} {fs : List XV} {x : XV} {ty : FieldType} (hw : w[q]? = some (.inl (a, fs))) (hb : b < fs.length) (ht : FT a b = some ty) (hx : xfit ty x = true) : xins cf MT FT FD TY TC exc M (.putfield i) a b z pc lv (x :: .inr (.inr (1, q)) :: st) w k n = some (.inl (pc + 3, lv, st, w.set q (.inl (a, fs.set b x)), k, n)) := by
  simp only [xins, xh_put, hw, ht, if_true]
  rw [if_pos ⟨trivial, hb, hx⟩]
theorem sx_imul {cf : XF} {MT : Nat → Option XM} {FT : Nat → Nat → Option FieldType} {FD : Nat → Option (List XV)} {TY : Nat → Option FieldType} {TC : Nat → Option Nat} {exc : List (List XV)} {M : XM} {pc : Nat} {lv : XL} {st : List XV} {w : XW} {k n : Nat} {a b : Nat} {z x y u : Int} (h : xe2 (fun x y => x * y) (x, x) (y, y) = (u, u)) : xins cf MT FT FD TY TC exc M .imul a b z pc lv (.inl (y, y) :: .inl (x, x) :: st) w k n = some (.inl (pc + 1, lv, .inl (u, u) :: st, w, k, n)) := by
  simp only [xins, xh_bin]
  rw [h]
theorem xtl_writez {n : Nat} {f : Nat → Int} {c : Nat} {z v : Int} (hz : z = (c : Int)) (h : c < n) : xwrite (xtl n f) (z, z) (.inl (v, v)) = some (xtl n (xup f c v)) := by
  subst hz
  exact xtl_write h
def xfil (f : Nat → Int) (v : Int) (o c : Nat) : Nat → Int := fun i => if o ≤ i ∧ i < o + c then v else f i
theorem xfil_0 {f : Nat → Int} {v : Int} {o : Nat} : xfil f v o 0 = f := by
  funext i
  unfold xfil
  rw [if_neg (by omega)]
theorem xfil_up {f : Nat → Int} {v : Int} {o c : Nat} : xup (xfil f v o c) (o + c) v = xfil f v o (c + 1) := by
  funext i
  unfold xup xfil
  by_cases h : i = o + c
  · rw [if_pos h, if_pos (show o ≤ i ∧ i < o + (c + 1) by omega)]
  · rw [if_neg h]
    by_cases h2 : o ≤ i ∧ i < o + c
    · rw [if_pos h2, if_pos (show o ≤ i ∧ i < o + (c + 1) by omega)]
    · rw [if_neg h2, if_neg (show ¬ (o ≤ i ∧ i < o + (c + 1)) by omega)]
theorem xf11_0 : xfetch (xm_t xm11) 0 = some (.aload_n 0, 0, 0, 0) := rfl
theorem xf11_1 : xfetch (xm_t xm11) 1 = some (.iload_n 1, 0, 0, 0) := rfl
theorem xf11_2 : xfetch (xm_t xm11) 2 = some (.putfield 15, 4, 1, 0) := rfl
theorem xf11_5 : xfetch (xm_t xm11) 5 = some (.iconst 0, 0, 0, 0) := rfl
theorem xf11_6 : xfetch (xm_t xm11) 6 = some (.istore_n 3, 0, 0, 0) := rfl
theorem xf11_7 : xfetch (xm_t xm11) 7 = some (.iload_n 3, 0, 0, 0) := rfl
theorem xf11_8 : xfetch (xm_t xm11) 8 = some (.iload_n 1, 0, 0, 0) := rfl
theorem xf11_9 : xfetch (xm_t xm11) 9 = some (.if_icmp .ge 16, 25, 0, 0) := rfl
theorem xf11_12 : xfetch (xm_t xm11) 12 = some (.aload_n 0, 0, 0, 0) := rfl
theorem xf11_13 : xfetch (xm_t xm11) 13 = some (.getfield 9, 4, 0, 0) := rfl
theorem xf11_16 : xfetch (xm_t xm11) 16 = some (.iload_n 3, 0, 0, 0) := rfl
theorem xf11_17 : xfetch (xm_t xm11) 17 = some (.iload_n 2, 0, 0, 0) := rfl
theorem xf11_18 : xfetch (xm_t xm11) 18 = some (.iastore, 0, 0, 0) := rfl
theorem xf11_19 : xfetch (xm_t xm11) 19 = some (.iinc 3 1, 0, 0, 1) := rfl
theorem xf11_22 : xfetch (xm_t xm11) 22 = some (.goto (-15), 7, 0, 0) := rfl
theorem xf11_25 : xfetch (xm_t xm11) 25 = some (.return_, 0, 0, 0) := rfl
section XBA
variable {l : Launch} {D : va_G} {tA : Nat → ClassId} {ex : List Nat}
set_option maxRecDepth 100000 in
set_option maxHeartbeats 4000000 in
theorem xba_loop {P : XR → Prop} (hP : XCl (xSt xscA xm11) (xJm l D tA ex xscA xm11) P) {W : XW} {q : Nat} {sz : XV} {f : Nat → Int} {v : Int} (hq : W[q]? = some (.inl (4, [.inr (.inr (1, q + 1)), sz]))) (ha : W[q + 1]? = some (.inr (0, xtl 40 f))) {n : Nat} (hn : n ≤ 40) (hF : P (.inr (none, (W.set q (.inl (4, [.inr (.inr (1, q + 1)), .inl ((n : Int), (n : Int))]))).set (q + 1) (.inr (0, xtl 40 (xfil f v 0 n))), 0, 0))) : ∀ (d i : Nat), i + d = n → P (.inl (7, [(3, .inl ((i : Int), (i : Int))), (0, .inr (.inr (1, q))), (1, .inl ((n : Int), (n : Int))), (2, .inl (v, v))], [], (W.set q (.inl (4, [.inr (.inr (1, q + 1)), .inl ((n : Int), (n : Int))]))).set (q + 1) (.inr (0, xtl 40 (xfil f v 0 i))), 0, 0)) := fun d => by
  have l1 : q + 1 < W.length := (List.getElem?_eq_some_iff.mp ha).1
  induction d with
  | zero =>
    intro i hi
    have g1 : ((W.set q (.inl (4, [.inr (.inr (1, q + 1)), .inl ((n : Int), (n : Int))]))).set (q + 1) (.inr (0, xtl 40 (xfil f v 0 i))))[q]? = some (.inl (4, [.inr (.inr (1, q + 1)), .inl ((n : Int), (n : Int))])) := xset_get (by omega) (xset_at (by omega))
    refine hP.go (r := .inl (8, [(3, .inl ((i : Int), (i : Int))), (0, .inr (.inr (1, q))), (1, .inl ((n : Int), (n : Int))), (2, .inl (v, v))], [.inl ((i : Int), (i : Int))], (W.set q (.inl (4, [.inr (.inr (1, q + 1)), .inl ((n : Int), (n : Int))]))).set (q + 1) (.inr (0, xtl 40 (xfil f v 0 i))), 0, 0)) xf11_7 rfl ?_
    refine hP.go (r := .inl (9, [(3, .inl ((i : Int), (i : Int))), (0, .inr (.inr (1, q))), (1, .inl ((n : Int), (n : Int))), (2, .inl (v, v))], [.inl ((n : Int), (n : Int)), .inl ((i : Int), (i : Int))], (W.set q (.inl (4, [.inr (.inr (1, q + 1)), .inl ((n : Int), (n : Int))]))).set (q + 1) (.inr (0, xtl 40 (xfil f v 0 i))), 0, 0)) xf11_8 rfl ?_
    refine hP.go (r := .inl (25, [(3, .inl ((i : Int), (i : Int))), (0, .inr (.inr (1, q))), (1, .inl ((n : Int), (n : Int))), (2, .inl (v, v))], [], (W.set q (.inl (4, [.inr (.inr (1, q + 1)), .inl ((n : Int), (n : Int))]))).set (q + 1) (.inr (0, xtl 40 (xfil f v 0 i))), 0, 0)) xf11_9 (sx_icmp (o := true) (xge_of.trans (by simp <;> omega))) ?_
    have e : n = i := by omega
    subst e
    exact hP.go (r := .inr (none, (W.set q (.inl (4, [.inr (.inr (1, q + 1)), .inl ((n : Int), (n : Int))]))).set (q + 1) (.inr (0, xtl 40 (xfil f v 0 n))), 0, 0)) xf11_25 rfl hF
  | succ d ih =>
    intro i hi
    have g1 : ((W.set q (.inl (4, [.inr (.inr (1, q + 1)), .inl ((n : Int), (n : Int))]))).set (q + 1) (.inr (0, xtl 40 (xfil f v 0 i))))[q]? = some (.inl (4, [.inr (.inr (1, q + 1)), .inl ((n : Int), (n : Int))])) := xset_get (by omega) (xset_at (by omega))
    have g2 : ((W.set q (.inl (4, [.inr (.inr (1, q + 1)), .inl ((n : Int), (n : Int))]))).set (q + 1) (.inr (0, xtl 40 (xfil f v 0 i))))[q + 1]? = some (.inr (0, xtl 40 (xfil f v 0 i))) := xset_at (by rw [List.length_set]; exact l1)
    refine hP.go (r := .inl (8, [(3, .inl ((i : Int), (i : Int))), (0, .inr (.inr (1, q))), (1, .inl ((n : Int), (n : Int))), (2, .inl (v, v))], [.inl ((i : Int), (i : Int))], (W.set q (.inl (4, [.inr (.inr (1, q + 1)), .inl ((n : Int), (n : Int))]))).set (q + 1) (.inr (0, xtl 40 (xfil f v 0 i))), 0, 0)) xf11_7 rfl ?_
    refine hP.go (r := .inl (9, [(3, .inl ((i : Int), (i : Int))), (0, .inr (.inr (1, q))), (1, .inl ((n : Int), (n : Int))), (2, .inl (v, v))], [.inl ((n : Int), (n : Int)), .inl ((i : Int), (i : Int))], (W.set q (.inl (4, [.inr (.inr (1, q + 1)), .inl ((n : Int), (n : Int))]))).set (q + 1) (.inr (0, xtl 40 (xfil f v 0 i))), 0, 0)) xf11_8 rfl ?_
    refine hP.go (r := .inl (12, [(3, .inl ((i : Int), (i : Int))), (0, .inr (.inr (1, q))), (1, .inl ((n : Int), (n : Int))), (2, .inl (v, v))], [], (W.set q (.inl (4, [.inr (.inr (1, q + 1)), .inl ((n : Int), (n : Int))]))).set (q + 1) (.inr (0, xtl 40 (xfil f v 0 i))), 0, 0)) xf11_9 (sx_icmp (o := false) (xge_of.trans (by simp <;> omega))) ?_
    refine hP.go (r := .inl (13, [(3, .inl ((i : Int), (i : Int))), (0, .inr (.inr (1, q))), (1, .inl ((n : Int), (n : Int))), (2, .inl (v, v))], [.inr (.inr (1, q))], (W.set q (.inl (4, [.inr (.inr (1, q + 1)), .inl ((n : Int), (n : Int))]))).set (q + 1) (.inr (0, xtl 40 (xfil f v 0 i))), 0, 0)) xf11_12 rfl ?_
    refine hP.go (r := .inl (16, [(3, .inl ((i : Int), (i : Int))), (0, .inr (.inr (1, q))), (1, .inl ((n : Int), (n : Int))), (2, .inl (v, v))], [.inr (.inr (1, q + 1))], (W.set q (.inl (4, [.inr (.inr (1, q + 1)), .inl ((n : Int), (n : Int))]))).set (q + 1) (.inr (0, xtl 40 (xfil f v 0 i))), 0, 0)) xf11_13 (sx_get g1 rfl) ?_
    refine hP.go (r := .inl (17, [(3, .inl ((i : Int), (i : Int))), (0, .inr (.inr (1, q))), (1, .inl ((n : Int), (n : Int))), (2, .inl (v, v))], [.inl ((i : Int), (i : Int)), .inr (.inr (1, q + 1))], (W.set q (.inl (4, [.inr (.inr (1, q + 1)), .inl ((n : Int), (n : Int))]))).set (q + 1) (.inr (0, xtl 40 (xfil f v 0 i))), 0, 0)) xf11_16 rfl ?_
    refine hP.go (r := .inl (18, [(3, .inl ((i : Int), (i : Int))), (0, .inr (.inr (1, q))), (1, .inl ((n : Int), (n : Int))), (2, .inl (v, v))], [.inl (v, v), .inl ((i : Int), (i : Int)), .inr (.inr (1, q + 1))], (W.set q (.inl (4, [.inr (.inr (1, q + 1)), .inl ((n : Int), (n : Int))]))).set (q + 1) (.inr (0, xtl 40 (xfil f v 0 i))), 0, 0)) xf11_17 rfl ?_
    refine hP.go (r := .inl (19, [(3, .inl ((i : Int), (i : Int))), (0, .inr (.inr (1, q))), (1, .inl ((n : Int), (n : Int))), (2, .inl (v, v))], [], (W.set q (.inl (4, [.inr (.inr (1, q + 1)), .inl ((n : Int), (n : Int))]))).set (q + 1) (.inr (0, xtl 40 (xup (xfil f v 0 i) i v))), 0, 0)) xf11_18 ((sx_iast g2 (xtl_write (by omega))).trans (by rw [List.set_set])) ?_
    refine hP.go (r := .inl (22, [(3, .inl ((i : Int) + 1, (i : Int) + 1)), (0, .inr (.inr (1, q))), (1, .inl ((n : Int), (n : Int))), (2, .inl (v, v))], [], (W.set q (.inl (4, [.inr (.inr (1, q + 1)), .inl ((n : Int), (n : Int))]))).set (q + 1) (.inr (0, xtl 40 (xup (xfil f v 0 i) i v))), 0, 0)) xf11_19 (sx_iinc rfl (Nat.le_of_ble_eq_true rfl) (by dsimp only; omega)) ?_
    refine hP.go (r := .inl (7, [(3, .inl ((i : Int) + 1, (i : Int) + 1)), (0, .inr (.inr (1, q))), (1, .inl ((n : Int), (n : Int))), (2, .inl (v, v))], [], (W.set q (.inl (4, [.inr (.inr (1, q + 1)), .inl ((n : Int), (n : Int))]))).set (q + 1) (.inr (0, xtl 40 (xup (xfil f v 0 i) i v))), 0, 0)) xf11_22 rfl ?_
    have h := ih (i + 1) (by omega)
    rw [show ((i + 1 : Nat) : Int) = (i : Int) + 1 from rfl] at h
    have e : xup (xfil f v 0 i) i v = xfil f v 0 (i + 1) := by
      have := xfil_up (f := f) (v := v) (o := 0) (c := i)
      rw [Nat.zero_add] at this
      exact this
    rw [e]
    exact h
set_option maxRecDepth 100000 in
set_option maxHeartbeats 4000000 in
theorem xba_met {W : XW} {q : Nat} {sz : XV} {f : Nat → Int} {v : Int} (hq : W[q]? = some (.inl (4, [.inr (.inr (1, q + 1)), sz]))) (ha : W[q + 1]? = some (.inr (0, xtl 40 f))) {n : Nat} (hn : n ≤ 40) : XMet l D vwCl (tysX tA) tA ex (xSTX ++ [xscA]) xSV xNW xNF xTs xm11 [.inr (.inr (1, q)), .inl ((n : Int), (n : Int)), .inl (v, v)] W none ((W.set q (.inl (4, [.inr (.inr (1, q + 1)), .inl ((n : Int), (n : Int))]))).set (q + 1) (.inr (0, xtl 40 (xfil f v 0 n)))) := by
  have l1 : q + 1 < W.length := (List.getElem?_eq_some_iff.mp ha).1
  refine xmet_ofK x_good (x_tysX tA) (x_tysY tA) (x_tysC tA) x_ok (fun j N as w ro w' => xcf_met j N as w ro w') (j := 11) (w2 := (W.set q (.inl (4, [.inr (.inr (1, q + 1)), .inl ((n : Int), (n : Int))]))).set (q + 1) (.inr (0, xtl 40 (xfil f v 0 n)))) (k2 := 0) (n2 := 0) rfl (Nat.le_of_ble_eq_true rfl) ⟨Nat.le_refl _, Nat.le_refl _⟩ (Or.inr rfl) (fun P hP hF => ?_)
  show P (.inl (0, [(0, .inr (.inr (1, q))), (1, .inl ((n : Int), (n : Int))), (2, .inl (v, v))], [], W, 0, 0))
  refine hP.go (r := .inl (1, [(0, .inr (.inr (1, q))), (1, .inl ((n : Int), (n : Int))), (2, .inl (v, v))], [.inr (.inr (1, q))], W, 0, 0)) xf11_0 rfl ?_
  refine hP.go (r := .inl (2, [(0, .inr (.inr (1, q))), (1, .inl ((n : Int), (n : Int))), (2, .inl (v, v))], [.inl ((n : Int), (n : Int)), .inr (.inr (1, q))], W, 0, 0)) xf11_1 rfl ?_
  refine hP.go (r := .inl (5, [(0, .inr (.inr (1, q))), (1, .inl ((n : Int), (n : Int))), (2, .inl (v, v))], [], W.set q (.inl (4, [.inr (.inr (1, q + 1)), .inl ((n : Int), (n : Int))])), 0, 0)) xf11_2 (sx_put hq (Nat.le_of_ble_eq_true rfl) rfl rfl) ?_
  refine hP.go (r := .inl (6, [(0, .inr (.inr (1, q))), (1, .inl ((n : Int), (n : Int))), (2, .inl (v, v))], [.inl ((0 : Int), (0 : Int))], W.set q (.inl (4, [.inr (.inr (1, q + 1)), .inl ((n : Int), (n : Int))])), 0, 0)) xf11_5 rfl ?_
  refine hP.go (r := .inl (7, [(3, .inl ((0 : Int), (0 : Int))), (0, .inr (.inr (1, q))), (1, .inl ((n : Int), (n : Int))), (2, .inl (v, v))], [], W.set q (.inl (4, [.inr (.inr (1, q + 1)), .inl ((n : Int), (n : Int))])), 0, 0)) xf11_6 rfl ?_
  have h := xba_loop hP hq ha hn hF n 0 (Nat.zero_add _)
  rw [xfil_0] at h
  have e : (W.set q (.inl (4, [.inr (.inr (1, q + 1)), .inl ((n : Int), (n : Int))]))).set (q + 1) (.inr (0, xtl 40 f)) = W.set q (.inl (4, [.inr (.inr (1, q + 1)), .inl ((n : Int), (n : Int))])) := by
    have e1 : (W.set q (.inl (4, [.inr (.inr (1, q + 1)), .inl ((n : Int), (n : Int))])))[q + 1]? = some (.inr (0, xtl 40 f)) := xset_get (by omega) ha
    obtain ⟨h1, e2⟩ := List.getElem?_eq_some_iff.mp e1
    rw [← e2]
    exact List.set_getElem_self h1
  rw [e] at h
  exact h
end XBA
theorem xf8_0 : xfetch (xm_t xm8) 0 = some (.aload_n 0, 0, 0, 0) := rfl
theorem xf8_1 : xfetch (xm_t xm8) 1 = some (.iload_n 1, 0, 0, 0) := rfl
theorem xf8_2 : xfetch (xm_t xm8) 2 = some (.invokevirtual 78, 9, 2, 0) := rfl
theorem xf8_5 : xfetch (xm_t xm8) 5 = some (.astore_n 3, 0, 0, 0) := rfl
theorem xf8_6 : xfetch (xm_t xm8) 6 = some (.aload_n 3, 0, 0, 0) := rfl
theorem xf8_7 : xfetch (xm_t xm8) 7 = some (.ifnull 9, 16, 0, 0) := rfl
theorem xf8_10 : xfetch (xm_t xm8) 10 = some (.iload_n 2, 0, 0, 0) := rfl
theorem xf8_11 : xfetch (xm_t xm8) 11 = some (.bipush 40, 0, 0, 40) := rfl
theorem xf8_13 : xfetch (xm_t xm8) 13 = some (.if_icmp .le 5, 18, 0, 0) := rfl
theorem xf8_16 : xfetch (xm_t xm8) 16 = some (.iconst (-1), 0, 0, (-1)) := rfl
theorem xf8_17 : xfetch (xm_t xm8) 17 = some (.ireturn, 0, 0, 0) := rfl
theorem xf8_18 : xfetch (xm_t xm8) 18 = some (.iload_n 2, 0, 0, 0) := rfl
theorem xf8_19 : xfetch (xm_t xm8) 19 = some (.ifCond .ge 9, 28, 0, 0) := rfl
theorem xf8_22 : xfetch (xm_t xm8) 22 = some (.aload_n 0, 0, 0, 0) := rfl
theorem xf8_23 : xfetch (xm_t xm8) 23 = some (.iconst 5, 0, 0, 5) := rfl
theorem xf8_24 : xfetch (xm_t xm8) 24 = some (.invokevirtual 82, 10, 2, 0) := rfl
theorem xf8_27 : xfetch (xm_t xm8) 27 = some (.ireturn, 0, 0, 0) := rfl
theorem xf8_28 : xfetch (xm_t xm8) 28 = some (.aload_n 3, 0, 0, 0) := rfl
theorem xf8_29 : xfetch (xm_t xm8) 29 = some (.iload_n 2, 0, 0, 0) := rfl
theorem xf8_30 : xfetch (xm_t xm8) 30 = some (.iconst 0, 0, 0, 0) := rfl
theorem xf8_31 : xfetch (xm_t xm8) 31 = some (.invokevirtual 86, 11, 3, 0) := rfl
theorem xf8_34 : xfetch (xm_t xm8) 34 = some (.iload_n 2, 0, 0, 0) := rfl
theorem xf8_35 : xfetch (xm_t xm8) 35 = some (.ireturn, 0, 0, 0) := rfl
theorem xf158_0 : xfetch (xm_t xm158) 0 = some (.iload_n 1, 0, 0, 0) := rfl
theorem xf158_1 : xfetch (xm_t xm158) 1 = some (.invokestatic 154, 159, 1, 0) := rfl
theorem xf158_4 : xfetch (xm_t xm158) 4 = some (.ifCond .eq 9, 13, 0, 0) := rfl
theorem xf158_7 : xfetch (xm_t xm158) 7 = some (.iload_n 2, 0, 0, 0) := rfl
theorem xf158_8 : xfetch (xm_t xm158) 8 = some (.bipush 40, 0, 0, 40) := rfl
theorem xf158_10 : xfetch (xm_t xm158) 10 = some (.if_icmp .le 5, 15, 0, 0) := rfl
theorem xf158_13 : xfetch (xm_t xm158) 13 = some (.iconst (-1), 0, 0, (-1)) := rfl
theorem xf158_14 : xfetch (xm_t xm158) 14 = some (.ireturn, 0, 0, 0) := rfl
theorem xf158_15 : xfetch (xm_t xm158) 15 = some (.iload_n 2, 0, 0, 0) := rfl
theorem xf158_16 : xfetch (xm_t xm158) 16 = some (.ifCond .ge 9, 25, 0, 0) := rfl
theorem xf158_19 : xfetch (xm_t xm158) 19 = some (.aload_n 0, 0, 0, 0) := rfl
theorem xf158_20 : xfetch (xm_t xm158) 20 = some (.iconst 5, 0, 0, 5) := rfl
theorem xf158_21 : xfetch (xm_t xm158) 21 = some (.invokevirtual 158, 161, 2, 0) := rfl
theorem xf158_24 : xfetch (xm_t xm158) 24 = some (.ireturn, 0, 0, 0) := rfl
theorem xf158_25 : xfetch (xm_t xm158) 25 = some (.aload_n 0, 0, 0, 0) := rfl
theorem xf158_26 : xfetch (xm_t xm158) 26 = some (.getfield 17, 10, 7, 0) := rfl
theorem xf158_29 : xfetch (xm_t xm158) 29 = some (.iload_n 1, 0, 0, 0) := rfl
theorem xf158_30 : xfetch (xm_t xm158) 30 = some (.iload_n 2, 0, 0, 0) := rfl
theorem xf158_31 : xfetch (xm_t xm158) 31 = some (.iastore, 0, 0, 0) := rfl
theorem xf158_32 : xfetch (xm_t xm158) 32 = some (.iconst 0, 0, 0, 0) := rfl
theorem xf158_33 : xfetch (xm_t xm158) 33 = some (.istore_n 3, 0, 0, 0) := rfl
theorem xf158_34 : xfetch (xm_t xm158) 34 = some (.iload_n 3, 0, 0, 0) := rfl
theorem xf158_35 : xfetch (xm_t xm158) 35 = some (.bipush 40, 0, 0, 40) := rfl
theorem xf158_37 : xfetch (xm_t xm158) 37 = some (.if_icmp .ge 21, 58, 0, 0) := rfl
theorem xf158_40 : xfetch (xm_t xm158) 40 = some (.aload_n 0, 0, 0, 0) := rfl
theorem xf158_41 : xfetch (xm_t xm158) 41 = some (.getfield 20, 10, 8, 0) := rfl
theorem xf158_44 : xfetch (xm_t xm158) 44 = some (.bipush 40, 0, 0, 40) := rfl
theorem xf158_46 : xfetch (xm_t xm158) 46 = some (.iload_n 1, 0, 0, 0) := rfl
theorem xf158_47 : xfetch (xm_t xm158) 47 = some (.imul, 0, 0, 0) := rfl
theorem xf158_48 : xfetch (xm_t xm158) 48 = some (.iload_n 3, 0, 0, 0) := rfl
theorem xf158_49 : xfetch (xm_t xm158) 49 = some (.iadd, 0, 0, 0) := rfl
theorem xf158_50 : xfetch (xm_t xm158) 50 = some (.iconst 0, 0, 0, 0) := rfl
theorem xf158_51 : xfetch (xm_t xm158) 51 = some (.iastore, 0, 0, 0) := rfl
theorem xf158_52 : xfetch (xm_t xm158) 52 = some (.iinc 3 1, 0, 0, 1) := rfl
theorem xf158_55 : xfetch (xm_t xm158) 55 = some (.goto (-21), 34, 0, 0) := rfl
theorem xf158_58 : xfetch (xm_t xm158) 58 = some (.iload_n 2, 0, 0, 0) := rfl
theorem xf158_59 : xfetch (xm_t xm158) 59 = some (.ireturn, 0, 0, 0) := rfl
theorem xo0_sz : xw0[59]? = some (.inr (0, xtl 6 (fun _ => -9))) := @of_decide_eq_true _ (xd10 _ _) (show @decide _ (xd10 (xw0[59]?) (some (.inr (0, xtl 6 (fun _ => -9))))) = true by decide +kernel)
theorem xo0_ar : xw0[60]? = some (.inr (0, xtl 240 (fun _ => 0))) := @of_decide_eq_true _ (xd10 _ _) (show @decide _ (xd10 (xw0[60]?) (some (.inr (0, xtl 240 (fun _ => 0))))) = true by decide +kernel)
def xo0_0_s : XW := [.inl (9, [.inr (.inr (1, 1)), .inr (.inr (1, 2)), .inr (.inr (1, 3)), .inr (.inr (1, 11)), .inr (.inr (1, 12)), .inr (.inr (1, 13)), .inr (.inr (1, 14)), .inr (.inr (1, 16)), .inr (.inr (1, 19)), .inr (.inr (1, 24)), xi 0, xi 0, xi 0, xi 1, xi 0, xi 0, .inr (.inl (some 0)), .inr (.inl (some 0)), .inr (.inl (some 1))]), .inr (3, [.inr (.inr (1, 25)), .inr (.inr (1, 27)), .inr (.inr (1, 29)), .inr (.inr (1, 31)), .inr (.inr (1, 33)), .inr (.inr (1, 35))])]
theorem xo0_0_m : xmrg xo0_0_s xw0 = xw0 := @of_decide_eq_true _ (xd5 _ _) (show @decide _ (xd5 (xmrg xo0_0_s xw0) xw0) = true by decide +kernel)
theorem xo0_0_a : xcf 20 xscA 9 [.inr (.inr (1, 0)), .inl (0, 0)] xw0 = some (some (.inr (.inr (1, 25))), xw0) := by
  have h := xcf_mrg xw0 (N := xm9) rfl rfl (@of_decide_eq_true _ (xd11 _ _) (show @decide _ (xd11 (xcf 20 xscA 9 [.inr (.inr (1, 0)), .inl (0, 0)] xo0_0_s) (some (some (.inr (.inr (1, 25))), xo0_0_s))) = true by decide +kernel))
  rw [xo0_0_m] at h
  exact h
theorem xo0_0_q : xw0[25]? = some (.inl (4, [.inr (.inr (1, 25 + 1)), .inl (-1, -1)])) := rfl
theorem xo0_0_p : xw0[25 + 1]? = some (.inr (0, xtl 40 (fun _ => 0))) := @of_decide_eq_true _ (xd10 _ _) (show @decide _ (xd10 (xw0[25 + 1]?) (some (.inr (0, xtl 40 (fun _ => 0))))) = true by decide +kernel)
abbrev xo0_0_w (n : Nat) : XW := (xw0.set 25 (.inl (4, [.inr (.inr (1, 25 + 1)), .inl ((n : Int), (n : Int))]))).set (25 + 1) (.inr (0, xtl 40 (xfil (fun _ => 0) 0 0 n)))
section XRW
variable {l : Launch} {D : va_G} {tA : Nat → ClassId} {ex : List Nat}
set_option maxRecDepth 100000 in
set_option maxHeartbeats 4000000 in
theorem xo0_0_c {n : Nat} (hn : n ≤ 40) : XMet l D vwCl (tysX tA) tA ex (xSTX ++ [xscA]) xSV xNW xNF xTs xm8 [.inr (.inr (1, 0)), .inl (0, 0), .inl ((n : Int), (n : Int))] xw0 (some (.inl ((n : Int), (n : Int)))) (xo0_0_w n) := by
  refine xmet_ofK x_good (x_tysX tA) (x_tysY tA) (x_tysC tA) x_ok (fun j N as w ro w' => xcf_met j N as w ro w') (j := 8) (w2 := xo0_0_w n) (k2 := 0) (n2 := 0) rfl (Nat.le_of_ble_eq_true rfl) ⟨Nat.le_refl _, Nat.le_refl _⟩ (Or.inr rfl) (fun P hP hF => ?_)
  show P (.inl (0, [(0, .inr (.inr (1, 0))), (1, .inl ((0 : Int), (0 : Int))), (2, .inl ((n : Int), (n : Int)))], [], xw0, 0, 0))
  refine hP.go (r := .inl (1, [(0, .inr (.inr (1, 0))), (1, .inl ((0 : Int), (0 : Int))), (2, .inl ((n : Int), (n : Int)))], [.inr (.inr (1, 0))], xw0, 0, 0)) xf8_0 rfl ?_
  refine hP.go (r := .inl (2, [(0, .inr (.inr (1, 0))), (1, .inl ((0 : Int), (0 : Int))), (2, .inl ((n : Int), (n : Int)))], [.inl ((0 : Int), (0 : Int)), .inr (.inr (1, 0))], xw0, 0, 0)) xf8_1 rfl ?_
  refine hP.go (r := .inl (5, [(0, .inr (.inr (1, 0))), (1, .inl ((0 : Int), (0 : Int))), (2, .inl ((n : Int), (n : Int)))], [.inr (.inr (1, 25))], xw0, 0, 0)) xf8_2 (sx_callv (N := xm9) (ro := some (.inr (.inr (1, 25)))) (w' := xw0) (k := 0) (n := 0) rfl (Nat.le_of_ble_eq_true rfl) (Nat.le_of_ble_eq_true rfl) (Nat.le_of_ble_eq_true rfl) (Nat.le_of_ble_eq_true rfl) (Nat.le_of_ble_eq_true rfl) (Nat.le_of_ble_eq_true rfl) (xrecv_of xw0_0) (xo0_0_a)) ?_
  refine hP.go (r := .inl (6, [(3, .inr (.inr (1, 25))), (0, .inr (.inr (1, 0))), (1, .inl ((0 : Int), (0 : Int))), (2, .inl ((n : Int), (n : Int)))], [], xw0, 0, 0)) xf8_5 rfl ?_
  refine hP.go (r := .inl (7, [(3, .inr (.inr (1, 25))), (0, .inr (.inr (1, 0))), (1, .inl ((0 : Int), (0 : Int))), (2, .inl ((n : Int), (n : Int)))], [.inr (.inr (1, 25))], xw0, 0, 0)) xf8_6 rfl ?_
  refine hP.go (r := .inl (10, [(3, .inr (.inr (1, 25))), (0, .inr (.inr (1, 0))), (1, .inl ((0 : Int), (0 : Int))), (2, .inl ((n : Int), (n : Int)))], [], xw0, 0, 0)) xf8_7 rfl ?_
  refine hP.go (r := .inl (11, [(3, .inr (.inr (1, 25))), (0, .inr (.inr (1, 0))), (1, .inl ((0 : Int), (0 : Int))), (2, .inl ((n : Int), (n : Int)))], [.inl ((n : Int), (n : Int))], xw0, 0, 0)) xf8_10 rfl ?_
  refine hP.go (r := .inl (13, [(3, .inr (.inr (1, 25))), (0, .inr (.inr (1, 0))), (1, .inl ((0 : Int), (0 : Int))), (2, .inl ((n : Int), (n : Int)))], [.inl ((40 : Int), (40 : Int)), .inl ((n : Int), (n : Int))], xw0, 0, 0)) xf8_11 rfl ?_
  refine hP.go (r := .inl (18, [(3, .inr (.inr (1, 25))), (0, .inr (.inr (1, 0))), (1, .inl ((0 : Int), (0 : Int))), (2, .inl ((n : Int), (n : Int)))], [], xw0, 0, 0)) xf8_13 (sx_icmp (o := true) (xcle_of.trans (by simp <;> omega))) ?_
  refine hP.go (r := .inl (19, [(3, .inr (.inr (1, 25))), (0, .inr (.inr (1, 0))), (1, .inl ((0 : Int), (0 : Int))), (2, .inl ((n : Int), (n : Int)))], [.inl ((n : Int), (n : Int))], xw0, 0, 0)) xf8_18 rfl ?_
  refine hP.go (r := .inl (28, [(3, .inr (.inr (1, 25))), (0, .inr (.inr (1, 0))), (1, .inl ((0 : Int), (0 : Int))), (2, .inl ((n : Int), (n : Int)))], [], xw0, 0, 0)) xf8_19 (sx_if (o := true) (xge_of.trans (by simp <;> omega))) ?_
  refine hP.go (r := .inl (29, [(3, .inr (.inr (1, 25))), (0, .inr (.inr (1, 0))), (1, .inl ((0 : Int), (0 : Int))), (2, .inl ((n : Int), (n : Int)))], [.inr (.inr (1, 25))], xw0, 0, 0)) xf8_28 rfl ?_
  refine hP.go (r := .inl (30, [(3, .inr (.inr (1, 25))), (0, .inr (.inr (1, 0))), (1, .inl ((0 : Int), (0 : Int))), (2, .inl ((n : Int), (n : Int)))], [.inl ((n : Int), (n : Int)), .inr (.inr (1, 25))], xw0, 0, 0)) xf8_29 rfl ?_
  refine hP.go (r := .inl (31, [(3, .inr (.inr (1, 25))), (0, .inr (.inr (1, 0))), (1, .inl ((0 : Int), (0 : Int))), (2, .inl ((n : Int), (n : Int)))], [.inl ((0 : Int), (0 : Int)), .inl ((n : Int), (n : Int)), .inr (.inr (1, 25))], xw0, 0, 0)) xf8_30 rfl ?_
  refine hP.2.2.1 _ (34, [(3, .inr (.inr (1, 25))), (0, .inr (.inr (1, 0))), (1, .inl ((0 : Int), (0 : Int))), (2, .inl ((n : Int), (n : Int)))], [], xo0_0_w n, 0, 0) ⟨.invokevirtual 86, 11, 3, 0, xm11, none, xo0_0_w n, xf8_31, rfl, xba_met (q := 25) xo0_0_q xo0_0_p hn, fun cf hc => sx_callv (N := xm11) rfl (Nat.le_of_ble_eq_true rfl) (Nat.le_of_ble_eq_true rfl) (Nat.le_of_ble_eq_true rfl) (Nat.le_of_ble_eq_true rfl) (Nat.le_of_ble_eq_true rfl) (Nat.le_of_ble_eq_true rfl) (xrecv_of xo0_0_q) hc⟩ ?_
  refine hP.go (r := .inl (35, [(3, .inr (.inr (1, 25))), (0, .inr (.inr (1, 0))), (1, .inl ((0 : Int), (0 : Int))), (2, .inl ((n : Int), (n : Int)))], [.inl ((n : Int), (n : Int))], xo0_0_w n, 0, 0)) xf8_34 rfl ?_
  exact hP.go (r := .inr (some (.inl ((n : Int), (n : Int))), xo0_0_w n, 0, 0)) xf8_35 rfl hF
theorem xo0_0_i {W : XW} : xcf 20 xscA 159 [.inl (0, 0)] W = some (some (.inl (1, 1)), W) := xcf_mrg W (w := []) (w' := []) (N := xm159) rfl rfl (@of_decide_eq_true _ (xd11 _ _) (show @decide _ (xd11 (xcf 20 xscA 159 [.inl (0, 0)] []) (some (some (.inl (1, 1)), []))) = true by decide +kernel))
set_option maxRecDepth 100000 in
set_option maxHeartbeats 4000000 in
theorem xo0_0_l {P : XR → Prop} (hP : XCl (xSt xscA xm158) (xJm l D tA ex xscA xm158) P) {W : XW} (h57 : W[57]? = some xc57) (hl : 60 < W.length) {n : Nat} (hn : n ≤ 40) (hF : P (.inr (some (.inl ((n : Int), (n : Int))), (W.set 59 (.inr (0, xtl 6 (xup (fun _ => -9) 0 (n : Int))))).set 60 (.inr (0, xtl 240 (xfil (fun _ => 0) 0 0 40))), 0, 0))) : ∀ (d i : Nat), i + d = 40 → P (.inl (34, [(3, .inl ((i : Int), (i : Int))), (0, .inr (.inr (1, 57))), (1, .inl ((0 : Int), (0 : Int))), (2, .inl ((n : Int), (n : Int)))], [], (W.set 59 (.inr (0, xtl 6 (xup (fun _ => -9) 0 (n : Int))))).set 60 (.inr (0, xtl 240 (xfil (fun _ => 0) 0 0 i))), 0, 0)) := fun d => by
  induction d with
  | zero =>
    intro i hi
    refine hP.go (r := .inl (35, [(3, .inl ((i : Int), (i : Int))), (0, .inr (.inr (1, 57))), (1, .inl ((0 : Int), (0 : Int))), (2, .inl ((n : Int), (n : Int)))], [.inl ((i : Int), (i : Int))], (W.set 59 (.inr (0, xtl 6 (xup (fun _ => -9) 0 (n : Int))))).set 60 (.inr (0, xtl 240 (xfil (fun _ => 0) 0 0 i))), 0, 0)) xf158_34 rfl ?_
    refine hP.go (r := .inl (37, [(3, .inl ((i : Int), (i : Int))), (0, .inr (.inr (1, 57))), (1, .inl ((0 : Int), (0 : Int))), (2, .inl ((n : Int), (n : Int)))], [.inl ((40 : Int), (40 : Int)), .inl ((i : Int), (i : Int))], (W.set 59 (.inr (0, xtl 6 (xup (fun _ => -9) 0 (n : Int))))).set 60 (.inr (0, xtl 240 (xfil (fun _ => 0) 0 0 i))), 0, 0)) xf158_35 rfl ?_
    refine hP.go (r := .inl (58, [(3, .inl ((i : Int), (i : Int))), (0, .inr (.inr (1, 57))), (1, .inl ((0 : Int), (0 : Int))), (2, .inl ((n : Int), (n : Int)))], [], (W.set 59 (.inr (0, xtl 6 (xup (fun _ => -9) 0 (n : Int))))).set 60 (.inr (0, xtl 240 (xfil (fun _ => 0) 0 0 i))), 0, 0)) xf158_37 (sx_icmp (o := true) (xge_of.trans (by simp <;> omega))) ?_
    refine hP.go (r := .inl (59, [(3, .inl ((i : Int), (i : Int))), (0, .inr (.inr (1, 57))), (1, .inl ((0 : Int), (0 : Int))), (2, .inl ((n : Int), (n : Int)))], [.inl ((n : Int), (n : Int))], (W.set 59 (.inr (0, xtl 6 (xup (fun _ => -9) 0 (n : Int))))).set 60 (.inr (0, xtl 240 (xfil (fun _ => 0) 0 0 i))), 0, 0)) xf158_58 rfl ?_
    have e : i = 40 := by omega
    subst e
    exact hP.go (r := .inr (some (.inl ((n : Int), (n : Int))), (W.set 59 (.inr (0, xtl 6 (xup (fun _ => -9) 0 (n : Int))))).set 60 (.inr (0, xtl 240 (xfil (fun _ => 0) 0 0 40))), 0, 0)) xf158_59 rfl hF
  | succ d ih =>
    intro i hi
    have g57 : ((W.set 59 (.inr (0, xtl 6 (xup (fun _ => -9) 0 (n : Int))))).set 60 (.inr (0, xtl 240 (xfil (fun _ => 0) 0 0 i))))[57]? = some xc57 := xset_get (by decide) (xset_get (by decide) h57)
    have g2 : ((W.set 59 (.inr (0, xtl 6 (xup (fun _ => -9) 0 (n : Int))))).set 60 (.inr (0, xtl 240 (xfil (fun _ => 0) 0 0 i))))[60]? = some (.inr (0, xtl 240 (xfil (fun _ => 0) 0 0 i))) := xset_at (by rw [List.length_set]; exact hl)
    refine hP.go (r := .inl (35, [(3, .inl ((i : Int), (i : Int))), (0, .inr (.inr (1, 57))), (1, .inl ((0 : Int), (0 : Int))), (2, .inl ((n : Int), (n : Int)))], [.inl ((i : Int), (i : Int))], (W.set 59 (.inr (0, xtl 6 (xup (fun _ => -9) 0 (n : Int))))).set 60 (.inr (0, xtl 240 (xfil (fun _ => 0) 0 0 i))), 0, 0)) xf158_34 rfl ?_
    refine hP.go (r := .inl (37, [(3, .inl ((i : Int), (i : Int))), (0, .inr (.inr (1, 57))), (1, .inl ((0 : Int), (0 : Int))), (2, .inl ((n : Int), (n : Int)))], [.inl ((40 : Int), (40 : Int)), .inl ((i : Int), (i : Int))], (W.set 59 (.inr (0, xtl 6 (xup (fun _ => -9) 0 (n : Int))))).set 60 (.inr (0, xtl 240 (xfil (fun _ => 0) 0 0 i))), 0, 0)) xf158_35 rfl ?_
    refine hP.go (r := .inl (40, [(3, .inl ((i : Int), (i : Int))), (0, .inr (.inr (1, 57))), (1, .inl ((0 : Int), (0 : Int))), (2, .inl ((n : Int), (n : Int)))], [], (W.set 59 (.inr (0, xtl 6 (xup (fun _ => -9) 0 (n : Int))))).set 60 (.inr (0, xtl 240 (xfil (fun _ => 0) 0 0 i))), 0, 0)) xf158_37 (sx_icmp (o := false) (xge_of.trans (by simp <;> omega))) ?_
    refine hP.go (r := .inl (41, [(3, .inl ((i : Int), (i : Int))), (0, .inr (.inr (1, 57))), (1, .inl ((0 : Int), (0 : Int))), (2, .inl ((n : Int), (n : Int)))], [.inr (.inr (1, 57))], (W.set 59 (.inr (0, xtl 6 (xup (fun _ => -9) 0 (n : Int))))).set 60 (.inr (0, xtl 240 (xfil (fun _ => 0) 0 0 i))), 0, 0)) xf158_40 rfl ?_
    refine hP.go (r := .inl (44, [(3, .inl ((i : Int), (i : Int))), (0, .inr (.inr (1, 57))), (1, .inl ((0 : Int), (0 : Int))), (2, .inl ((n : Int), (n : Int)))], [.inr (.inr (1, 60))], (W.set 59 (.inr (0, xtl 6 (xup (fun _ => -9) 0 (n : Int))))).set 60 (.inr (0, xtl 240 (xfil (fun _ => 0) 0 0 i))), 0, 0)) xf158_41 (sx_get g57 rfl) ?_
    refine hP.go (r := .inl (46, [(3, .inl ((i : Int), (i : Int))), (0, .inr (.inr (1, 57))), (1, .inl ((0 : Int), (0 : Int))), (2, .inl ((n : Int), (n : Int)))], [.inl ((40 : Int), (40 : Int)), .inr (.inr (1, 60))], (W.set 59 (.inr (0, xtl 6 (xup (fun _ => -9) 0 (n : Int))))).set 60 (.inr (0, xtl 240 (xfil (fun _ => 0) 0 0 i))), 0, 0)) xf158_44 rfl ?_
    refine hP.go (r := .inl (47, [(3, .inl ((i : Int), (i : Int))), (0, .inr (.inr (1, 57))), (1, .inl ((0 : Int), (0 : Int))), (2, .inl ((n : Int), (n : Int)))], [.inl ((0 : Int), (0 : Int)), .inl ((40 : Int), (40 : Int)), .inr (.inr (1, 60))], (W.set 59 (.inr (0, xtl 6 (xup (fun _ => -9) 0 (n : Int))))).set 60 (.inr (0, xtl 240 (xfil (fun _ => 0) 0 0 i))), 0, 0)) xf158_46 rfl ?_
    refine hP.go (r := .inl (48, [(3, .inl ((i : Int), (i : Int))), (0, .inr (.inr (1, 57))), (1, .inl ((0 : Int), (0 : Int))), (2, .inl ((n : Int), (n : Int)))], [.inl ((0 : Int), (0 : Int)), .inr (.inr (1, 60))], (W.set 59 (.inr (0, xtl 6 (xup (fun _ => -9) 0 (n : Int))))).set 60 (.inr (0, xtl 240 (xfil (fun _ => 0) 0 0 i))), 0, 0)) xf158_47 (sx_imul (by decide +kernel)) ?_
    refine hP.go (r := .inl (49, [(3, .inl ((i : Int), (i : Int))), (0, .inr (.inr (1, 57))), (1, .inl ((0 : Int), (0 : Int))), (2, .inl ((n : Int), (n : Int)))], [.inl ((i : Int), (i : Int)), .inl ((0 : Int), (0 : Int)), .inr (.inr (1, 60))], (W.set 59 (.inr (0, xtl 6 (xup (fun _ => -9) 0 (n : Int))))).set 60 (.inr (0, xtl 240 (xfil (fun _ => 0) 0 0 i))), 0, 0)) xf158_48 rfl ?_
    refine hP.go (r := .inl (50, [(3, .inl ((i : Int), (i : Int))), (0, .inr (.inr (1, 57))), (1, .inl ((0 : Int), (0 : Int))), (2, .inl ((n : Int), (n : Int)))], [.inl ((0 : Int) + (i : Int), (0 : Int) + (i : Int)), .inr (.inr (1, 60))], (W.set 59 (.inr (0, xtl 6 (xup (fun _ => -9) 0 (n : Int))))).set 60 (.inr (0, xtl 240 (xfil (fun _ => 0) 0 0 i))), 0, 0)) xf158_49 (sx_iadd (by omega)) ?_
    refine hP.go (r := .inl (51, [(3, .inl ((i : Int), (i : Int))), (0, .inr (.inr (1, 57))), (1, .inl ((0 : Int), (0 : Int))), (2, .inl ((n : Int), (n : Int)))], [.inl ((0 : Int), (0 : Int)), .inl ((0 : Int) + (i : Int), (0 : Int) + (i : Int)), .inr (.inr (1, 60))], (W.set 59 (.inr (0, xtl 6 (xup (fun _ => -9) 0 (n : Int))))).set 60 (.inr (0, xtl 240 (xfil (fun _ => 0) 0 0 i))), 0, 0)) xf158_50 rfl ?_
    refine hP.go (r := .inl (52, [(3, .inl ((i : Int), (i : Int))), (0, .inr (.inr (1, 57))), (1, .inl ((0 : Int), (0 : Int))), (2, .inl ((n : Int), (n : Int)))], [], (W.set 59 (.inr (0, xtl 6 (xup (fun _ => -9) 0 (n : Int))))).set 60 (.inr (0, xtl 240 (xup (xfil (fun _ => 0) 0 0 i) (0 + i) 0))), 0, 0)) xf158_51 ((sx_iast g2 (xtl_writez (c := 0 + i) (by omega) (by omega))).trans (by rw [List.set_set])) ?_
    refine hP.go (r := .inl (55, [(3, .inl ((i : Int) + 1, (i : Int) + 1)), (0, .inr (.inr (1, 57))), (1, .inl ((0 : Int), (0 : Int))), (2, .inl ((n : Int), (n : Int)))], [], (W.set 59 (.inr (0, xtl 6 (xup (fun _ => -9) 0 (n : Int))))).set 60 (.inr (0, xtl 240 (xup (xfil (fun _ => 0) 0 0 i) (0 + i) 0))), 0, 0)) xf158_52 (sx_iinc rfl (Nat.le_of_ble_eq_true rfl) (by dsimp only; omega)) ?_
    refine hP.go (r := .inl (34, [(3, .inl ((i : Int) + 1, (i : Int) + 1)), (0, .inr (.inr (1, 57))), (1, .inl ((0 : Int), (0 : Int))), (2, .inl ((n : Int), (n : Int)))], [], (W.set 59 (.inr (0, xtl 6 (xup (fun _ => -9) 0 (n : Int))))).set 60 (.inr (0, xtl 240 (xup (xfil (fun _ => 0) 0 0 i) (0 + i) 0))), 0, 0)) xf158_55 rfl ?_
    have h := ih (i + 1) (by omega)
    rw [show ((i + 1 : Nat) : Int) = (i : Int) + 1 from rfl] at h
    rw [xfil_up]
    exact h
set_option maxRecDepth 100000 in
set_option maxHeartbeats 4000000 in
theorem xo0_0_k {W : XW} (h57 : W[57]? = some xc57) (hsz : W[59]? = some (.inr (0, xtl 6 (fun _ => -9)))) (har : W[60]? = some (.inr (0, xtl 240 (fun _ => 0)))) {n : Nat} (hn : n ≤ 40) : XMet l D vwCl (tysX tA) tA ex (xSTX ++ [xscA]) xSV xNW xNF xTs xm158 [.inr (.inr (1, 57)), .inl (0, 0), .inl ((n : Int), (n : Int))] W (some (.inl ((n : Int), (n : Int)))) ((W.set 59 (.inr (0, xtl 6 (xup (fun _ => -9) 0 (n : Int))))).set 60 (.inr (0, xtl 240 (xfil (fun _ => 0) 0 0 40)))) := by
  have hl : 60 < W.length := (List.getElem?_eq_some_iff.mp har).1
  refine xmet_ofK x_good (x_tysX tA) (x_tysY tA) (x_tysC tA) x_ok (fun j N as w ro w' => xcf_met j N as w ro w') (j := 158) (w2 := (W.set 59 (.inr (0, xtl 6 (xup (fun _ => -9) 0 (n : Int))))).set 60 (.inr (0, xtl 240 (xfil (fun _ => 0) 0 0 40)))) (k2 := 0) (n2 := 0) rfl (Nat.le_of_ble_eq_true rfl) ⟨Nat.le_refl _, Nat.le_refl _⟩ (Or.inr rfl) (fun P hP hF => ?_)
  show P (.inl (0, [(0, .inr (.inr (1, 57))), (1, .inl ((0 : Int), (0 : Int))), (2, .inl ((n : Int), (n : Int)))], [], W, 0, 0))
  refine hP.go (r := .inl (1, [(0, .inr (.inr (1, 57))), (1, .inl ((0 : Int), (0 : Int))), (2, .inl ((n : Int), (n : Int)))], [.inl ((0 : Int), (0 : Int))], W, 0, 0)) xf158_0 rfl ?_
  refine hP.go (r := .inl (4, [(0, .inr (.inr (1, 57))), (1, .inl ((0 : Int), (0 : Int))), (2, .inl ((n : Int), (n : Int)))], [.inl ((1 : Int), (1 : Int))], W, 0, 0)) xf158_1 (sx_calls (N := xm159) (ro := some (.inl ((1 : Int), (1 : Int)))) (w' := W) (k := 0) (n := 0) (by decide) rfl (Nat.le_of_ble_eq_true rfl) (Nat.le_of_ble_eq_true rfl) (Nat.le_of_ble_eq_true rfl) (Nat.le_of_ble_eq_true rfl) (Nat.le_of_ble_eq_true rfl) (Nat.le_of_ble_eq_true rfl) (xo0_0_i)) ?_
  refine hP.go (r := .inl (7, [(0, .inr (.inr (1, 57))), (1, .inl ((0 : Int), (0 : Int))), (2, .inl ((n : Int), (n : Int)))], [], W, 0, 0)) xf158_4 (sx_if (o := false) rfl) ?_
  refine hP.go (r := .inl (8, [(0, .inr (.inr (1, 57))), (1, .inl ((0 : Int), (0 : Int))), (2, .inl ((n : Int), (n : Int)))], [.inl ((n : Int), (n : Int))], W, 0, 0)) xf158_7 rfl ?_
  refine hP.go (r := .inl (10, [(0, .inr (.inr (1, 57))), (1, .inl ((0 : Int), (0 : Int))), (2, .inl ((n : Int), (n : Int)))], [.inl ((40 : Int), (40 : Int)), .inl ((n : Int), (n : Int))], W, 0, 0)) xf158_8 rfl ?_
  refine hP.go (r := .inl (15, [(0, .inr (.inr (1, 57))), (1, .inl ((0 : Int), (0 : Int))), (2, .inl ((n : Int), (n : Int)))], [], W, 0, 0)) xf158_10 (sx_icmp (o := true) (xcle_of.trans (by simp <;> omega))) ?_
  refine hP.go (r := .inl (16, [(0, .inr (.inr (1, 57))), (1, .inl ((0 : Int), (0 : Int))), (2, .inl ((n : Int), (n : Int)))], [.inl ((n : Int), (n : Int))], W, 0, 0)) xf158_15 rfl ?_
  refine hP.go (r := .inl (25, [(0, .inr (.inr (1, 57))), (1, .inl ((0 : Int), (0 : Int))), (2, .inl ((n : Int), (n : Int)))], [], W, 0, 0)) xf158_16 (sx_if (o := true) (xge_of.trans (by simp <;> omega))) ?_
  refine hP.go (r := .inl (26, [(0, .inr (.inr (1, 57))), (1, .inl ((0 : Int), (0 : Int))), (2, .inl ((n : Int), (n : Int)))], [.inr (.inr (1, 57))], W, 0, 0)) xf158_25 rfl ?_
  refine hP.go (r := .inl (29, [(0, .inr (.inr (1, 57))), (1, .inl ((0 : Int), (0 : Int))), (2, .inl ((n : Int), (n : Int)))], [.inr (.inr (1, 59))], W, 0, 0)) xf158_26 (sx_get h57 rfl) ?_
  refine hP.go (r := .inl (30, [(0, .inr (.inr (1, 57))), (1, .inl ((0 : Int), (0 : Int))), (2, .inl ((n : Int), (n : Int)))], [.inl ((0 : Int), (0 : Int)), .inr (.inr (1, 59))], W, 0, 0)) xf158_29 rfl ?_
  refine hP.go (r := .inl (31, [(0, .inr (.inr (1, 57))), (1, .inl ((0 : Int), (0 : Int))), (2, .inl ((n : Int), (n : Int)))], [.inl ((n : Int), (n : Int)), .inl ((0 : Int), (0 : Int)), .inr (.inr (1, 59))], W, 0, 0)) xf158_30 rfl ?_
  refine hP.go (r := .inl (32, [(0, .inr (.inr (1, 57))), (1, .inl ((0 : Int), (0 : Int))), (2, .inl ((n : Int), (n : Int)))], [], (W.set 59 (.inr (0, xtl 6 (xup (fun _ => -9) 0 (n : Int))))), 0, 0)) xf158_31 (sx_iast hsz (xtl_writez (c := 0) rfl (by decide))) ?_
  refine hP.go (r := .inl (33, [(0, .inr (.inr (1, 57))), (1, .inl ((0 : Int), (0 : Int))), (2, .inl ((n : Int), (n : Int)))], [.inl ((0 : Int), (0 : Int))], (W.set 59 (.inr (0, xtl 6 (xup (fun _ => -9) 0 (n : Int))))), 0, 0)) xf158_32 rfl ?_
  refine hP.go (r := .inl (34, [(3, .inl ((0 : Int), (0 : Int))), (0, .inr (.inr (1, 57))), (1, .inl ((0 : Int), (0 : Int))), (2, .inl ((n : Int), (n : Int)))], [], (W.set 59 (.inr (0, xtl 6 (xup (fun _ => -9) 0 (n : Int))))), 0, 0)) xf158_33 rfl ?_
  have h := xo0_0_l hP h57 hl hn hF 40 0 (Nat.zero_add _)
  rw [xfil_0] at h
  have e : (W.set 59 (.inr (0, xtl 6 (xup (fun _ => -9) 0 (n : Int))))).set 60 (.inr (0, xtl 240 (fun _ => 0))) = (W.set 59 (.inr (0, xtl 6 (xup (fun _ => -9) 0 (n : Int))))) := by
    have e1 : (W.set 59 (.inr (0, xtl 6 (xup (fun _ => -9) 0 (n : Int)))))[60]? = some (.inr (0, xtl 240 (fun _ => 0))) := xset_get (by decide) har
    obtain ⟨h1, e2⟩ := List.getElem?_eq_some_iff.mp e1
    rw [← e2]
    exact List.set_getElem_self h1
  rw [e] at h
  exact h
end XRW
def xo0_1_s : XW := [.inl (9, [.inr (.inr (1, 1)), .inr (.inr (1, 2)), .inr (.inr (1, 3)), .inr (.inr (1, 11)), .inr (.inr (1, 12)), .inr (.inr (1, 13)), .inr (.inr (1, 14)), .inr (.inr (1, 16)), .inr (.inr (1, 19)), .inr (.inr (1, 24)), xi 0, xi 0, xi 0, xi 1, xi 0, xi 0, .inr (.inl (some 0)), .inr (.inl (some 0)), .inr (.inl (some 1))]), .inr (3, [.inr (.inr (1, 25)), .inr (.inr (1, 27)), .inr (.inr (1, 29)), .inr (.inr (1, 31)), .inr (.inr (1, 33)), .inr (.inr (1, 35))])]
theorem xo0_1_m : xmrg xo0_1_s xw0 = xw0 := @of_decide_eq_true _ (xd5 _ _) (show @decide _ (xd5 (xmrg xo0_1_s xw0) xw0) = true by decide +kernel)
theorem xo0_1_a : xcf 20 xscA 9 [.inr (.inr (1, 0)), .inl (1, 1)] xw0 = some (some (.inr (.inr (1, 27))), xw0) := by
  have h := xcf_mrg xw0 (N := xm9) rfl rfl (@of_decide_eq_true _ (xd11 _ _) (show @decide _ (xd11 (xcf 20 xscA 9 [.inr (.inr (1, 0)), .inl (1, 1)] xo0_1_s) (some (some (.inr (.inr (1, 27))), xo0_1_s))) = true by decide +kernel))
  rw [xo0_1_m] at h
  exact h
theorem xo0_1_q : xw0[27]? = some (.inl (4, [.inr (.inr (1, 27 + 1)), .inl (-1, -1)])) := rfl
theorem xo0_1_p : xw0[27 + 1]? = some (.inr (0, xtl 40 (fun _ => 0))) := @of_decide_eq_true _ (xd10 _ _) (show @decide _ (xd10 (xw0[27 + 1]?) (some (.inr (0, xtl 40 (fun _ => 0))))) = true by decide +kernel)
abbrev xo0_1_w (n : Nat) : XW := (xw0.set 27 (.inl (4, [.inr (.inr (1, 27 + 1)), .inl ((n : Int), (n : Int))]))).set (27 + 1) (.inr (0, xtl 40 (xfil (fun _ => 0) 0 0 n)))
section XRW
variable {l : Launch} {D : va_G} {tA : Nat → ClassId} {ex : List Nat}
set_option maxRecDepth 100000 in
set_option maxHeartbeats 4000000 in
theorem xo0_1_c {n : Nat} (hn : n ≤ 40) : XMet l D vwCl (tysX tA) tA ex (xSTX ++ [xscA]) xSV xNW xNF xTs xm8 [.inr (.inr (1, 0)), .inl (1, 1), .inl ((n : Int), (n : Int))] xw0 (some (.inl ((n : Int), (n : Int)))) (xo0_1_w n) := by
  refine xmet_ofK x_good (x_tysX tA) (x_tysY tA) (x_tysC tA) x_ok (fun j N as w ro w' => xcf_met j N as w ro w') (j := 8) (w2 := xo0_1_w n) (k2 := 0) (n2 := 0) rfl (Nat.le_of_ble_eq_true rfl) ⟨Nat.le_refl _, Nat.le_refl _⟩ (Or.inr rfl) (fun P hP hF => ?_)
  show P (.inl (0, [(0, .inr (.inr (1, 0))), (1, .inl ((1 : Int), (1 : Int))), (2, .inl ((n : Int), (n : Int)))], [], xw0, 0, 0))
  refine hP.go (r := .inl (1, [(0, .inr (.inr (1, 0))), (1, .inl ((1 : Int), (1 : Int))), (2, .inl ((n : Int), (n : Int)))], [.inr (.inr (1, 0))], xw0, 0, 0)) xf8_0 rfl ?_
  refine hP.go (r := .inl (2, [(0, .inr (.inr (1, 0))), (1, .inl ((1 : Int), (1 : Int))), (2, .inl ((n : Int), (n : Int)))], [.inl ((1 : Int), (1 : Int)), .inr (.inr (1, 0))], xw0, 0, 0)) xf8_1 rfl ?_
  refine hP.go (r := .inl (5, [(0, .inr (.inr (1, 0))), (1, .inl ((1 : Int), (1 : Int))), (2, .inl ((n : Int), (n : Int)))], [.inr (.inr (1, 27))], xw0, 0, 0)) xf8_2 (sx_callv (N := xm9) (ro := some (.inr (.inr (1, 27)))) (w' := xw0) (k := 0) (n := 0) rfl (Nat.le_of_ble_eq_true rfl) (Nat.le_of_ble_eq_true rfl) (Nat.le_of_ble_eq_true rfl) (Nat.le_of_ble_eq_true rfl) (Nat.le_of_ble_eq_true rfl) (Nat.le_of_ble_eq_true rfl) (xrecv_of xw0_0) (xo0_1_a)) ?_
  refine hP.go (r := .inl (6, [(3, .inr (.inr (1, 27))), (0, .inr (.inr (1, 0))), (1, .inl ((1 : Int), (1 : Int))), (2, .inl ((n : Int), (n : Int)))], [], xw0, 0, 0)) xf8_5 rfl ?_
  refine hP.go (r := .inl (7, [(3, .inr (.inr (1, 27))), (0, .inr (.inr (1, 0))), (1, .inl ((1 : Int), (1 : Int))), (2, .inl ((n : Int), (n : Int)))], [.inr (.inr (1, 27))], xw0, 0, 0)) xf8_6 rfl ?_
  refine hP.go (r := .inl (10, [(3, .inr (.inr (1, 27))), (0, .inr (.inr (1, 0))), (1, .inl ((1 : Int), (1 : Int))), (2, .inl ((n : Int), (n : Int)))], [], xw0, 0, 0)) xf8_7 rfl ?_
  refine hP.go (r := .inl (11, [(3, .inr (.inr (1, 27))), (0, .inr (.inr (1, 0))), (1, .inl ((1 : Int), (1 : Int))), (2, .inl ((n : Int), (n : Int)))], [.inl ((n : Int), (n : Int))], xw0, 0, 0)) xf8_10 rfl ?_
  refine hP.go (r := .inl (13, [(3, .inr (.inr (1, 27))), (0, .inr (.inr (1, 0))), (1, .inl ((1 : Int), (1 : Int))), (2, .inl ((n : Int), (n : Int)))], [.inl ((40 : Int), (40 : Int)), .inl ((n : Int), (n : Int))], xw0, 0, 0)) xf8_11 rfl ?_
  refine hP.go (r := .inl (18, [(3, .inr (.inr (1, 27))), (0, .inr (.inr (1, 0))), (1, .inl ((1 : Int), (1 : Int))), (2, .inl ((n : Int), (n : Int)))], [], xw0, 0, 0)) xf8_13 (sx_icmp (o := true) (xcle_of.trans (by simp <;> omega))) ?_
  refine hP.go (r := .inl (19, [(3, .inr (.inr (1, 27))), (0, .inr (.inr (1, 0))), (1, .inl ((1 : Int), (1 : Int))), (2, .inl ((n : Int), (n : Int)))], [.inl ((n : Int), (n : Int))], xw0, 0, 0)) xf8_18 rfl ?_
  refine hP.go (r := .inl (28, [(3, .inr (.inr (1, 27))), (0, .inr (.inr (1, 0))), (1, .inl ((1 : Int), (1 : Int))), (2, .inl ((n : Int), (n : Int)))], [], xw0, 0, 0)) xf8_19 (sx_if (o := true) (xge_of.trans (by simp <;> omega))) ?_
  refine hP.go (r := .inl (29, [(3, .inr (.inr (1, 27))), (0, .inr (.inr (1, 0))), (1, .inl ((1 : Int), (1 : Int))), (2, .inl ((n : Int), (n : Int)))], [.inr (.inr (1, 27))], xw0, 0, 0)) xf8_28 rfl ?_
  refine hP.go (r := .inl (30, [(3, .inr (.inr (1, 27))), (0, .inr (.inr (1, 0))), (1, .inl ((1 : Int), (1 : Int))), (2, .inl ((n : Int), (n : Int)))], [.inl ((n : Int), (n : Int)), .inr (.inr (1, 27))], xw0, 0, 0)) xf8_29 rfl ?_
  refine hP.go (r := .inl (31, [(3, .inr (.inr (1, 27))), (0, .inr (.inr (1, 0))), (1, .inl ((1 : Int), (1 : Int))), (2, .inl ((n : Int), (n : Int)))], [.inl ((0 : Int), (0 : Int)), .inl ((n : Int), (n : Int)), .inr (.inr (1, 27))], xw0, 0, 0)) xf8_30 rfl ?_
  refine hP.2.2.1 _ (34, [(3, .inr (.inr (1, 27))), (0, .inr (.inr (1, 0))), (1, .inl ((1 : Int), (1 : Int))), (2, .inl ((n : Int), (n : Int)))], [], xo0_1_w n, 0, 0) ⟨.invokevirtual 86, 11, 3, 0, xm11, none, xo0_1_w n, xf8_31, rfl, xba_met (q := 27) xo0_1_q xo0_1_p hn, fun cf hc => sx_callv (N := xm11) rfl (Nat.le_of_ble_eq_true rfl) (Nat.le_of_ble_eq_true rfl) (Nat.le_of_ble_eq_true rfl) (Nat.le_of_ble_eq_true rfl) (Nat.le_of_ble_eq_true rfl) (Nat.le_of_ble_eq_true rfl) (xrecv_of xo0_1_q) hc⟩ ?_
  refine hP.go (r := .inl (35, [(3, .inr (.inr (1, 27))), (0, .inr (.inr (1, 0))), (1, .inl ((1 : Int), (1 : Int))), (2, .inl ((n : Int), (n : Int)))], [.inl ((n : Int), (n : Int))], xo0_1_w n, 0, 0)) xf8_34 rfl ?_
  exact hP.go (r := .inr (some (.inl ((n : Int), (n : Int))), xo0_1_w n, 0, 0)) xf8_35 rfl hF
theorem xo0_1_i {W : XW} : xcf 20 xscA 159 [.inl (1, 1)] W = some (some (.inl (1, 1)), W) := xcf_mrg W (w := []) (w' := []) (N := xm159) rfl rfl (@of_decide_eq_true _ (xd11 _ _) (show @decide _ (xd11 (xcf 20 xscA 159 [.inl (1, 1)] []) (some (some (.inl (1, 1)), []))) = true by decide +kernel))
set_option maxRecDepth 100000 in
set_option maxHeartbeats 4000000 in
theorem xo0_1_l {P : XR → Prop} (hP : XCl (xSt xscA xm158) (xJm l D tA ex xscA xm158) P) {W : XW} (h57 : W[57]? = some xc57) (hl : 60 < W.length) {n : Nat} (hn : n ≤ 40) (hF : P (.inr (some (.inl ((n : Int), (n : Int))), (W.set 59 (.inr (0, xtl 6 (xup (fun _ => -9) 1 (n : Int))))).set 60 (.inr (0, xtl 240 (xfil (fun _ => 0) 0 40 40))), 0, 0))) : ∀ (d i : Nat), i + d = 40 → P (.inl (34, [(3, .inl ((i : Int), (i : Int))), (0, .inr (.inr (1, 57))), (1, .inl ((1 : Int), (1 : Int))), (2, .inl ((n : Int), (n : Int)))], [], (W.set 59 (.inr (0, xtl 6 (xup (fun _ => -9) 1 (n : Int))))).set 60 (.inr (0, xtl 240 (xfil (fun _ => 0) 0 40 i))), 0, 0)) := fun d => by
  induction d with
  | zero =>
    intro i hi
    refine hP.go (r := .inl (35, [(3, .inl ((i : Int), (i : Int))), (0, .inr (.inr (1, 57))), (1, .inl ((1 : Int), (1 : Int))), (2, .inl ((n : Int), (n : Int)))], [.inl ((i : Int), (i : Int))], (W.set 59 (.inr (0, xtl 6 (xup (fun _ => -9) 1 (n : Int))))).set 60 (.inr (0, xtl 240 (xfil (fun _ => 0) 0 40 i))), 0, 0)) xf158_34 rfl ?_
    refine hP.go (r := .inl (37, [(3, .inl ((i : Int), (i : Int))), (0, .inr (.inr (1, 57))), (1, .inl ((1 : Int), (1 : Int))), (2, .inl ((n : Int), (n : Int)))], [.inl ((40 : Int), (40 : Int)), .inl ((i : Int), (i : Int))], (W.set 59 (.inr (0, xtl 6 (xup (fun _ => -9) 1 (n : Int))))).set 60 (.inr (0, xtl 240 (xfil (fun _ => 0) 0 40 i))), 0, 0)) xf158_35 rfl ?_
    refine hP.go (r := .inl (58, [(3, .inl ((i : Int), (i : Int))), (0, .inr (.inr (1, 57))), (1, .inl ((1 : Int), (1 : Int))), (2, .inl ((n : Int), (n : Int)))], [], (W.set 59 (.inr (0, xtl 6 (xup (fun _ => -9) 1 (n : Int))))).set 60 (.inr (0, xtl 240 (xfil (fun _ => 0) 0 40 i))), 0, 0)) xf158_37 (sx_icmp (o := true) (xge_of.trans (by simp <;> omega))) ?_
    refine hP.go (r := .inl (59, [(3, .inl ((i : Int), (i : Int))), (0, .inr (.inr (1, 57))), (1, .inl ((1 : Int), (1 : Int))), (2, .inl ((n : Int), (n : Int)))], [.inl ((n : Int), (n : Int))], (W.set 59 (.inr (0, xtl 6 (xup (fun _ => -9) 1 (n : Int))))).set 60 (.inr (0, xtl 240 (xfil (fun _ => 0) 0 40 i))), 0, 0)) xf158_58 rfl ?_
    have e : i = 40 := by omega
    subst e
    exact hP.go (r := .inr (some (.inl ((n : Int), (n : Int))), (W.set 59 (.inr (0, xtl 6 (xup (fun _ => -9) 1 (n : Int))))).set 60 (.inr (0, xtl 240 (xfil (fun _ => 0) 0 40 40))), 0, 0)) xf158_59 rfl hF
  | succ d ih =>
    intro i hi
    have g57 : ((W.set 59 (.inr (0, xtl 6 (xup (fun _ => -9) 1 (n : Int))))).set 60 (.inr (0, xtl 240 (xfil (fun _ => 0) 0 40 i))))[57]? = some xc57 := xset_get (by decide) (xset_get (by decide) h57)
    have g2 : ((W.set 59 (.inr (0, xtl 6 (xup (fun _ => -9) 1 (n : Int))))).set 60 (.inr (0, xtl 240 (xfil (fun _ => 0) 0 40 i))))[60]? = some (.inr (0, xtl 240 (xfil (fun _ => 0) 0 40 i))) := xset_at (by rw [List.length_set]; exact hl)
    refine hP.go (r := .inl (35, [(3, .inl ((i : Int), (i : Int))), (0, .inr (.inr (1, 57))), (1, .inl ((1 : Int), (1 : Int))), (2, .inl ((n : Int), (n : Int)))], [.inl ((i : Int), (i : Int))], (W.set 59 (.inr (0, xtl 6 (xup (fun _ => -9) 1 (n : Int))))).set 60 (.inr (0, xtl 240 (xfil (fun _ => 0) 0 40 i))), 0, 0)) xf158_34 rfl ?_
    refine hP.go (r := .inl (37, [(3, .inl ((i : Int), (i : Int))), (0, .inr (.inr (1, 57))), (1, .inl ((1 : Int), (1 : Int))), (2, .inl ((n : Int), (n : Int)))], [.inl ((40 : Int), (40 : Int)), .inl ((i : Int), (i : Int))], (W.set 59 (.inr (0, xtl 6 (xup (fun _ => -9) 1 (n : Int))))).set 60 (.inr (0, xtl 240 (xfil (fun _ => 0) 0 40 i))), 0, 0)) xf158_35 rfl ?_
    refine hP.go (r := .inl (40, [(3, .inl ((i : Int), (i : Int))), (0, .inr (.inr (1, 57))), (1, .inl ((1 : Int), (1 : Int))), (2, .inl ((n : Int), (n : Int)))], [], (W.set 59 (.inr (0, xtl 6 (xup (fun _ => -9) 1 (n : Int))))).set 60 (.inr (0, xtl 240 (xfil (fun _ => 0) 0 40 i))), 0, 0)) xf158_37 (sx_icmp (o := false) (xge_of.trans (by simp <;> omega))) ?_
    refine hP.go (r := .inl (41, [(3, .inl ((i : Int), (i : Int))), (0, .inr (.inr (1, 57))), (1, .inl ((1 : Int), (1 : Int))), (2, .inl ((n : Int), (n : Int)))], [.inr (.inr (1, 57))], (W.set 59 (.inr (0, xtl 6 (xup (fun _ => -9) 1 (n : Int))))).set 60 (.inr (0, xtl 240 (xfil (fun _ => 0) 0 40 i))), 0, 0)) xf158_40 rfl ?_
    refine hP.go (r := .inl (44, [(3, .inl ((i : Int), (i : Int))), (0, .inr (.inr (1, 57))), (1, .inl ((1 : Int), (1 : Int))), (2, .inl ((n : Int), (n : Int)))], [.inr (.inr (1, 60))], (W.set 59 (.inr (0, xtl 6 (xup (fun _ => -9) 1 (n : Int))))).set 60 (.inr (0, xtl 240 (xfil (fun _ => 0) 0 40 i))), 0, 0)) xf158_41 (sx_get g57 rfl) ?_
    refine hP.go (r := .inl (46, [(3, .inl ((i : Int), (i : Int))), (0, .inr (.inr (1, 57))), (1, .inl ((1 : Int), (1 : Int))), (2, .inl ((n : Int), (n : Int)))], [.inl ((40 : Int), (40 : Int)), .inr (.inr (1, 60))], (W.set 59 (.inr (0, xtl 6 (xup (fun _ => -9) 1 (n : Int))))).set 60 (.inr (0, xtl 240 (xfil (fun _ => 0) 0 40 i))), 0, 0)) xf158_44 rfl ?_
    refine hP.go (r := .inl (47, [(3, .inl ((i : Int), (i : Int))), (0, .inr (.inr (1, 57))), (1, .inl ((1 : Int), (1 : Int))), (2, .inl ((n : Int), (n : Int)))], [.inl ((1 : Int), (1 : Int)), .inl ((40 : Int), (40 : Int)), .inr (.inr (1, 60))], (W.set 59 (.inr (0, xtl 6 (xup (fun _ => -9) 1 (n : Int))))).set 60 (.inr (0, xtl 240 (xfil (fun _ => 0) 0 40 i))), 0, 0)) xf158_46 rfl ?_
    refine hP.go (r := .inl (48, [(3, .inl ((i : Int), (i : Int))), (0, .inr (.inr (1, 57))), (1, .inl ((1 : Int), (1 : Int))), (2, .inl ((n : Int), (n : Int)))], [.inl ((40 : Int), (40 : Int)), .inr (.inr (1, 60))], (W.set 59 (.inr (0, xtl 6 (xup (fun _ => -9) 1 (n : Int))))).set 60 (.inr (0, xtl 240 (xfil (fun _ => 0) 0 40 i))), 0, 0)) xf158_47 (sx_imul (by decide +kernel)) ?_
    refine hP.go (r := .inl (49, [(3, .inl ((i : Int), (i : Int))), (0, .inr (.inr (1, 57))), (1, .inl ((1 : Int), (1 : Int))), (2, .inl ((n : Int), (n : Int)))], [.inl ((i : Int), (i : Int)), .inl ((40 : Int), (40 : Int)), .inr (.inr (1, 60))], (W.set 59 (.inr (0, xtl 6 (xup (fun _ => -9) 1 (n : Int))))).set 60 (.inr (0, xtl 240 (xfil (fun _ => 0) 0 40 i))), 0, 0)) xf158_48 rfl ?_
    refine hP.go (r := .inl (50, [(3, .inl ((i : Int), (i : Int))), (0, .inr (.inr (1, 57))), (1, .inl ((1 : Int), (1 : Int))), (2, .inl ((n : Int), (n : Int)))], [.inl ((40 : Int) + (i : Int), (40 : Int) + (i : Int)), .inr (.inr (1, 60))], (W.set 59 (.inr (0, xtl 6 (xup (fun _ => -9) 1 (n : Int))))).set 60 (.inr (0, xtl 240 (xfil (fun _ => 0) 0 40 i))), 0, 0)) xf158_49 (sx_iadd (by omega)) ?_
    refine hP.go (r := .inl (51, [(3, .inl ((i : Int), (i : Int))), (0, .inr (.inr (1, 57))), (1, .inl ((1 : Int), (1 : Int))), (2, .inl ((n : Int), (n : Int)))], [.inl ((0 : Int), (0 : Int)), .inl ((40 : Int) + (i : Int), (40 : Int) + (i : Int)), .inr (.inr (1, 60))], (W.set 59 (.inr (0, xtl 6 (xup (fun _ => -9) 1 (n : Int))))).set 60 (.inr (0, xtl 240 (xfil (fun _ => 0) 0 40 i))), 0, 0)) xf158_50 rfl ?_
    refine hP.go (r := .inl (52, [(3, .inl ((i : Int), (i : Int))), (0, .inr (.inr (1, 57))), (1, .inl ((1 : Int), (1 : Int))), (2, .inl ((n : Int), (n : Int)))], [], (W.set 59 (.inr (0, xtl 6 (xup (fun _ => -9) 1 (n : Int))))).set 60 (.inr (0, xtl 240 (xup (xfil (fun _ => 0) 0 40 i) (40 + i) 0))), 0, 0)) xf158_51 ((sx_iast g2 (xtl_writez (c := 40 + i) (by omega) (by omega))).trans (by rw [List.set_set])) ?_
    refine hP.go (r := .inl (55, [(3, .inl ((i : Int) + 1, (i : Int) + 1)), (0, .inr (.inr (1, 57))), (1, .inl ((1 : Int), (1 : Int))), (2, .inl ((n : Int), (n : Int)))], [], (W.set 59 (.inr (0, xtl 6 (xup (fun _ => -9) 1 (n : Int))))).set 60 (.inr (0, xtl 240 (xup (xfil (fun _ => 0) 0 40 i) (40 + i) 0))), 0, 0)) xf158_52 (sx_iinc rfl (Nat.le_of_ble_eq_true rfl) (by dsimp only; omega)) ?_
    refine hP.go (r := .inl (34, [(3, .inl ((i : Int) + 1, (i : Int) + 1)), (0, .inr (.inr (1, 57))), (1, .inl ((1 : Int), (1 : Int))), (2, .inl ((n : Int), (n : Int)))], [], (W.set 59 (.inr (0, xtl 6 (xup (fun _ => -9) 1 (n : Int))))).set 60 (.inr (0, xtl 240 (xup (xfil (fun _ => 0) 0 40 i) (40 + i) 0))), 0, 0)) xf158_55 rfl ?_
    have h := ih (i + 1) (by omega)
    rw [show ((i + 1 : Nat) : Int) = (i : Int) + 1 from rfl] at h
    rw [xfil_up]
    exact h
set_option maxRecDepth 100000 in
set_option maxHeartbeats 4000000 in
theorem xo0_1_k {W : XW} (h57 : W[57]? = some xc57) (hsz : W[59]? = some (.inr (0, xtl 6 (fun _ => -9)))) (har : W[60]? = some (.inr (0, xtl 240 (fun _ => 0)))) {n : Nat} (hn : n ≤ 40) : XMet l D vwCl (tysX tA) tA ex (xSTX ++ [xscA]) xSV xNW xNF xTs xm158 [.inr (.inr (1, 57)), .inl (1, 1), .inl ((n : Int), (n : Int))] W (some (.inl ((n : Int), (n : Int)))) ((W.set 59 (.inr (0, xtl 6 (xup (fun _ => -9) 1 (n : Int))))).set 60 (.inr (0, xtl 240 (xfil (fun _ => 0) 0 40 40)))) := by
  have hl : 60 < W.length := (List.getElem?_eq_some_iff.mp har).1
  refine xmet_ofK x_good (x_tysX tA) (x_tysY tA) (x_tysC tA) x_ok (fun j N as w ro w' => xcf_met j N as w ro w') (j := 158) (w2 := (W.set 59 (.inr (0, xtl 6 (xup (fun _ => -9) 1 (n : Int))))).set 60 (.inr (0, xtl 240 (xfil (fun _ => 0) 0 40 40)))) (k2 := 0) (n2 := 0) rfl (Nat.le_of_ble_eq_true rfl) ⟨Nat.le_refl _, Nat.le_refl _⟩ (Or.inr rfl) (fun P hP hF => ?_)
  show P (.inl (0, [(0, .inr (.inr (1, 57))), (1, .inl ((1 : Int), (1 : Int))), (2, .inl ((n : Int), (n : Int)))], [], W, 0, 0))
  refine hP.go (r := .inl (1, [(0, .inr (.inr (1, 57))), (1, .inl ((1 : Int), (1 : Int))), (2, .inl ((n : Int), (n : Int)))], [.inl ((1 : Int), (1 : Int))], W, 0, 0)) xf158_0 rfl ?_
  refine hP.go (r := .inl (4, [(0, .inr (.inr (1, 57))), (1, .inl ((1 : Int), (1 : Int))), (2, .inl ((n : Int), (n : Int)))], [.inl ((1 : Int), (1 : Int))], W, 0, 0)) xf158_1 (sx_calls (N := xm159) (ro := some (.inl ((1 : Int), (1 : Int)))) (w' := W) (k := 0) (n := 0) (by decide) rfl (Nat.le_of_ble_eq_true rfl) (Nat.le_of_ble_eq_true rfl) (Nat.le_of_ble_eq_true rfl) (Nat.le_of_ble_eq_true rfl) (Nat.le_of_ble_eq_true rfl) (Nat.le_of_ble_eq_true rfl) (xo0_1_i)) ?_
  refine hP.go (r := .inl (7, [(0, .inr (.inr (1, 57))), (1, .inl ((1 : Int), (1 : Int))), (2, .inl ((n : Int), (n : Int)))], [], W, 0, 0)) xf158_4 (sx_if (o := false) rfl) ?_
  refine hP.go (r := .inl (8, [(0, .inr (.inr (1, 57))), (1, .inl ((1 : Int), (1 : Int))), (2, .inl ((n : Int), (n : Int)))], [.inl ((n : Int), (n : Int))], W, 0, 0)) xf158_7 rfl ?_
  refine hP.go (r := .inl (10, [(0, .inr (.inr (1, 57))), (1, .inl ((1 : Int), (1 : Int))), (2, .inl ((n : Int), (n : Int)))], [.inl ((40 : Int), (40 : Int)), .inl ((n : Int), (n : Int))], W, 0, 0)) xf158_8 rfl ?_
  refine hP.go (r := .inl (15, [(0, .inr (.inr (1, 57))), (1, .inl ((1 : Int), (1 : Int))), (2, .inl ((n : Int), (n : Int)))], [], W, 0, 0)) xf158_10 (sx_icmp (o := true) (xcle_of.trans (by simp <;> omega))) ?_
  refine hP.go (r := .inl (16, [(0, .inr (.inr (1, 57))), (1, .inl ((1 : Int), (1 : Int))), (2, .inl ((n : Int), (n : Int)))], [.inl ((n : Int), (n : Int))], W, 0, 0)) xf158_15 rfl ?_
  refine hP.go (r := .inl (25, [(0, .inr (.inr (1, 57))), (1, .inl ((1 : Int), (1 : Int))), (2, .inl ((n : Int), (n : Int)))], [], W, 0, 0)) xf158_16 (sx_if (o := true) (xge_of.trans (by simp <;> omega))) ?_
  refine hP.go (r := .inl (26, [(0, .inr (.inr (1, 57))), (1, .inl ((1 : Int), (1 : Int))), (2, .inl ((n : Int), (n : Int)))], [.inr (.inr (1, 57))], W, 0, 0)) xf158_25 rfl ?_
  refine hP.go (r := .inl (29, [(0, .inr (.inr (1, 57))), (1, .inl ((1 : Int), (1 : Int))), (2, .inl ((n : Int), (n : Int)))], [.inr (.inr (1, 59))], W, 0, 0)) xf158_26 (sx_get h57 rfl) ?_
  refine hP.go (r := .inl (30, [(0, .inr (.inr (1, 57))), (1, .inl ((1 : Int), (1 : Int))), (2, .inl ((n : Int), (n : Int)))], [.inl ((1 : Int), (1 : Int)), .inr (.inr (1, 59))], W, 0, 0)) xf158_29 rfl ?_
  refine hP.go (r := .inl (31, [(0, .inr (.inr (1, 57))), (1, .inl ((1 : Int), (1 : Int))), (2, .inl ((n : Int), (n : Int)))], [.inl ((n : Int), (n : Int)), .inl ((1 : Int), (1 : Int)), .inr (.inr (1, 59))], W, 0, 0)) xf158_30 rfl ?_
  refine hP.go (r := .inl (32, [(0, .inr (.inr (1, 57))), (1, .inl ((1 : Int), (1 : Int))), (2, .inl ((n : Int), (n : Int)))], [], (W.set 59 (.inr (0, xtl 6 (xup (fun _ => -9) 1 (n : Int))))), 0, 0)) xf158_31 (sx_iast hsz (xtl_writez (c := 1) rfl (by decide))) ?_
  refine hP.go (r := .inl (33, [(0, .inr (.inr (1, 57))), (1, .inl ((1 : Int), (1 : Int))), (2, .inl ((n : Int), (n : Int)))], [.inl ((0 : Int), (0 : Int))], (W.set 59 (.inr (0, xtl 6 (xup (fun _ => -9) 1 (n : Int))))), 0, 0)) xf158_32 rfl ?_
  refine hP.go (r := .inl (34, [(3, .inl ((0 : Int), (0 : Int))), (0, .inr (.inr (1, 57))), (1, .inl ((1 : Int), (1 : Int))), (2, .inl ((n : Int), (n : Int)))], [], (W.set 59 (.inr (0, xtl 6 (xup (fun _ => -9) 1 (n : Int))))), 0, 0)) xf158_33 rfl ?_
  have h := xo0_1_l hP h57 hl hn hF 40 0 (Nat.zero_add _)
  rw [xfil_0] at h
  have e : (W.set 59 (.inr (0, xtl 6 (xup (fun _ => -9) 1 (n : Int))))).set 60 (.inr (0, xtl 240 (fun _ => 0))) = (W.set 59 (.inr (0, xtl 6 (xup (fun _ => -9) 1 (n : Int))))) := by
    have e1 : (W.set 59 (.inr (0, xtl 6 (xup (fun _ => -9) 1 (n : Int)))))[60]? = some (.inr (0, xtl 240 (fun _ => 0))) := xset_get (by decide) har
    obtain ⟨h1, e2⟩ := List.getElem?_eq_some_iff.mp e1
    rw [← e2]
    exact List.set_getElem_self h1
  rw [e] at h
  exact h
end XRW
def xo0_2_s : XW := [.inl (9, [.inr (.inr (1, 1)), .inr (.inr (1, 2)), .inr (.inr (1, 3)), .inr (.inr (1, 11)), .inr (.inr (1, 12)), .inr (.inr (1, 13)), .inr (.inr (1, 14)), .inr (.inr (1, 16)), .inr (.inr (1, 19)), .inr (.inr (1, 24)), xi 0, xi 0, xi 0, xi 1, xi 0, xi 0, .inr (.inl (some 0)), .inr (.inl (some 0)), .inr (.inl (some 1))]), .inr (3, [.inr (.inr (1, 25)), .inr (.inr (1, 27)), .inr (.inr (1, 29)), .inr (.inr (1, 31)), .inr (.inr (1, 33)), .inr (.inr (1, 35))])]
theorem xo0_2_m : xmrg xo0_2_s xw0 = xw0 := @of_decide_eq_true _ (xd5 _ _) (show @decide _ (xd5 (xmrg xo0_2_s xw0) xw0) = true by decide +kernel)
theorem xo0_2_a : xcf 20 xscA 9 [.inr (.inr (1, 0)), .inl (2, 2)] xw0 = some (some (.inr (.inr (1, 29))), xw0) := by
  have h := xcf_mrg xw0 (N := xm9) rfl rfl (@of_decide_eq_true _ (xd11 _ _) (show @decide _ (xd11 (xcf 20 xscA 9 [.inr (.inr (1, 0)), .inl (2, 2)] xo0_2_s) (some (some (.inr (.inr (1, 29))), xo0_2_s))) = true by decide +kernel))
  rw [xo0_2_m] at h
  exact h
theorem xo0_2_q : xw0[29]? = some (.inl (4, [.inr (.inr (1, 29 + 1)), .inl (-1, -1)])) := rfl
theorem xo0_2_p : xw0[29 + 1]? = some (.inr (0, xtl 40 (fun _ => 0))) := @of_decide_eq_true _ (xd10 _ _) (show @decide _ (xd10 (xw0[29 + 1]?) (some (.inr (0, xtl 40 (fun _ => 0))))) = true by decide +kernel)
abbrev xo0_2_w (n : Nat) : XW := (xw0.set 29 (.inl (4, [.inr (.inr (1, 29 + 1)), .inl ((n : Int), (n : Int))]))).set (29 + 1) (.inr (0, xtl 40 (xfil (fun _ => 0) 0 0 n)))
section XRW
variable {l : Launch} {D : va_G} {tA : Nat → ClassId} {ex : List Nat}
set_option maxRecDepth 100000 in
set_option maxHeartbeats 4000000 in
theorem xo0_2_c {n : Nat} (hn : n ≤ 40) : XMet l D vwCl (tysX tA) tA ex (xSTX ++ [xscA]) xSV xNW xNF xTs xm8 [.inr (.inr (1, 0)), .inl (2, 2), .inl ((n : Int), (n : Int))] xw0 (some (.inl ((n : Int), (n : Int)))) (xo0_2_w n) := by
  refine xmet_ofK x_good (x_tysX tA) (x_tysY tA) (x_tysC tA) x_ok (fun j N as w ro w' => xcf_met j N as w ro w') (j := 8) (w2 := xo0_2_w n) (k2 := 0) (n2 := 0) rfl (Nat.le_of_ble_eq_true rfl) ⟨Nat.le_refl _, Nat.le_refl _⟩ (Or.inr rfl) (fun P hP hF => ?_)
  show P (.inl (0, [(0, .inr (.inr (1, 0))), (1, .inl ((2 : Int), (2 : Int))), (2, .inl ((n : Int), (n : Int)))], [], xw0, 0, 0))
  refine hP.go (r := .inl (1, [(0, .inr (.inr (1, 0))), (1, .inl ((2 : Int), (2 : Int))), (2, .inl ((n : Int), (n : Int)))], [.inr (.inr (1, 0))], xw0, 0, 0)) xf8_0 rfl ?_
  refine hP.go (r := .inl (2, [(0, .inr (.inr (1, 0))), (1, .inl ((2 : Int), (2 : Int))), (2, .inl ((n : Int), (n : Int)))], [.inl ((2 : Int), (2 : Int)), .inr (.inr (1, 0))], xw0, 0, 0)) xf8_1 rfl ?_
  refine hP.go (r := .inl (5, [(0, .inr (.inr (1, 0))), (1, .inl ((2 : Int), (2 : Int))), (2, .inl ((n : Int), (n : Int)))], [.inr (.inr (1, 29))], xw0, 0, 0)) xf8_2 (sx_callv (N := xm9) (ro := some (.inr (.inr (1, 29)))) (w' := xw0) (k := 0) (n := 0) rfl (Nat.le_of_ble_eq_true rfl) (Nat.le_of_ble_eq_true rfl) (Nat.le_of_ble_eq_true rfl) (Nat.le_of_ble_eq_true rfl) (Nat.le_of_ble_eq_true rfl) (Nat.le_of_ble_eq_true rfl) (xrecv_of xw0_0) (xo0_2_a)) ?_
  refine hP.go (r := .inl (6, [(3, .inr (.inr (1, 29))), (0, .inr (.inr (1, 0))), (1, .inl ((2 : Int), (2 : Int))), (2, .inl ((n : Int), (n : Int)))], [], xw0, 0, 0)) xf8_5 rfl ?_
  refine hP.go (r := .inl (7, [(3, .inr (.inr (1, 29))), (0, .inr (.inr (1, 0))), (1, .inl ((2 : Int), (2 : Int))), (2, .inl ((n : Int), (n : Int)))], [.inr (.inr (1, 29))], xw0, 0, 0)) xf8_6 rfl ?_
  refine hP.go (r := .inl (10, [(3, .inr (.inr (1, 29))), (0, .inr (.inr (1, 0))), (1, .inl ((2 : Int), (2 : Int))), (2, .inl ((n : Int), (n : Int)))], [], xw0, 0, 0)) xf8_7 rfl ?_
  refine hP.go (r := .inl (11, [(3, .inr (.inr (1, 29))), (0, .inr (.inr (1, 0))), (1, .inl ((2 : Int), (2 : Int))), (2, .inl ((n : Int), (n : Int)))], [.inl ((n : Int), (n : Int))], xw0, 0, 0)) xf8_10 rfl ?_
  refine hP.go (r := .inl (13, [(3, .inr (.inr (1, 29))), (0, .inr (.inr (1, 0))), (1, .inl ((2 : Int), (2 : Int))), (2, .inl ((n : Int), (n : Int)))], [.inl ((40 : Int), (40 : Int)), .inl ((n : Int), (n : Int))], xw0, 0, 0)) xf8_11 rfl ?_
  refine hP.go (r := .inl (18, [(3, .inr (.inr (1, 29))), (0, .inr (.inr (1, 0))), (1, .inl ((2 : Int), (2 : Int))), (2, .inl ((n : Int), (n : Int)))], [], xw0, 0, 0)) xf8_13 (sx_icmp (o := true) (xcle_of.trans (by simp <;> omega))) ?_
  refine hP.go (r := .inl (19, [(3, .inr (.inr (1, 29))), (0, .inr (.inr (1, 0))), (1, .inl ((2 : Int), (2 : Int))), (2, .inl ((n : Int), (n : Int)))], [.inl ((n : Int), (n : Int))], xw0, 0, 0)) xf8_18 rfl ?_
  refine hP.go (r := .inl (28, [(3, .inr (.inr (1, 29))), (0, .inr (.inr (1, 0))), (1, .inl ((2 : Int), (2 : Int))), (2, .inl ((n : Int), (n : Int)))], [], xw0, 0, 0)) xf8_19 (sx_if (o := true) (xge_of.trans (by simp <;> omega))) ?_
  refine hP.go (r := .inl (29, [(3, .inr (.inr (1, 29))), (0, .inr (.inr (1, 0))), (1, .inl ((2 : Int), (2 : Int))), (2, .inl ((n : Int), (n : Int)))], [.inr (.inr (1, 29))], xw0, 0, 0)) xf8_28 rfl ?_
  refine hP.go (r := .inl (30, [(3, .inr (.inr (1, 29))), (0, .inr (.inr (1, 0))), (1, .inl ((2 : Int), (2 : Int))), (2, .inl ((n : Int), (n : Int)))], [.inl ((n : Int), (n : Int)), .inr (.inr (1, 29))], xw0, 0, 0)) xf8_29 rfl ?_
  refine hP.go (r := .inl (31, [(3, .inr (.inr (1, 29))), (0, .inr (.inr (1, 0))), (1, .inl ((2 : Int), (2 : Int))), (2, .inl ((n : Int), (n : Int)))], [.inl ((0 : Int), (0 : Int)), .inl ((n : Int), (n : Int)), .inr (.inr (1, 29))], xw0, 0, 0)) xf8_30 rfl ?_
  refine hP.2.2.1 _ (34, [(3, .inr (.inr (1, 29))), (0, .inr (.inr (1, 0))), (1, .inl ((2 : Int), (2 : Int))), (2, .inl ((n : Int), (n : Int)))], [], xo0_2_w n, 0, 0) ⟨.invokevirtual 86, 11, 3, 0, xm11, none, xo0_2_w n, xf8_31, rfl, xba_met (q := 29) xo0_2_q xo0_2_p hn, fun cf hc => sx_callv (N := xm11) rfl (Nat.le_of_ble_eq_true rfl) (Nat.le_of_ble_eq_true rfl) (Nat.le_of_ble_eq_true rfl) (Nat.le_of_ble_eq_true rfl) (Nat.le_of_ble_eq_true rfl) (Nat.le_of_ble_eq_true rfl) (xrecv_of xo0_2_q) hc⟩ ?_
  refine hP.go (r := .inl (35, [(3, .inr (.inr (1, 29))), (0, .inr (.inr (1, 0))), (1, .inl ((2 : Int), (2 : Int))), (2, .inl ((n : Int), (n : Int)))], [.inl ((n : Int), (n : Int))], xo0_2_w n, 0, 0)) xf8_34 rfl ?_
  exact hP.go (r := .inr (some (.inl ((n : Int), (n : Int))), xo0_2_w n, 0, 0)) xf8_35 rfl hF
theorem xo0_2_i {W : XW} : xcf 20 xscA 159 [.inl (2, 2)] W = some (some (.inl (1, 1)), W) := xcf_mrg W (w := []) (w' := []) (N := xm159) rfl rfl (@of_decide_eq_true _ (xd11 _ _) (show @decide _ (xd11 (xcf 20 xscA 159 [.inl (2, 2)] []) (some (some (.inl (1, 1)), []))) = true by decide +kernel))
set_option maxRecDepth 100000 in
set_option maxHeartbeats 4000000 in
theorem xo0_2_l {P : XR → Prop} (hP : XCl (xSt xscA xm158) (xJm l D tA ex xscA xm158) P) {W : XW} (h57 : W[57]? = some xc57) (hl : 60 < W.length) {n : Nat} (hn : n ≤ 40) (hF : P (.inr (some (.inl ((n : Int), (n : Int))), (W.set 59 (.inr (0, xtl 6 (xup (fun _ => -9) 2 (n : Int))))).set 60 (.inr (0, xtl 240 (xfil (fun _ => 0) 0 80 40))), 0, 0))) : ∀ (d i : Nat), i + d = 40 → P (.inl (34, [(3, .inl ((i : Int), (i : Int))), (0, .inr (.inr (1, 57))), (1, .inl ((2 : Int), (2 : Int))), (2, .inl ((n : Int), (n : Int)))], [], (W.set 59 (.inr (0, xtl 6 (xup (fun _ => -9) 2 (n : Int))))).set 60 (.inr (0, xtl 240 (xfil (fun _ => 0) 0 80 i))), 0, 0)) := fun d => by
  induction d with
  | zero =>
    intro i hi
    refine hP.go (r := .inl (35, [(3, .inl ((i : Int), (i : Int))), (0, .inr (.inr (1, 57))), (1, .inl ((2 : Int), (2 : Int))), (2, .inl ((n : Int), (n : Int)))], [.inl ((i : Int), (i : Int))], (W.set 59 (.inr (0, xtl 6 (xup (fun _ => -9) 2 (n : Int))))).set 60 (.inr (0, xtl 240 (xfil (fun _ => 0) 0 80 i))), 0, 0)) xf158_34 rfl ?_
    refine hP.go (r := .inl (37, [(3, .inl ((i : Int), (i : Int))), (0, .inr (.inr (1, 57))), (1, .inl ((2 : Int), (2 : Int))), (2, .inl ((n : Int), (n : Int)))], [.inl ((40 : Int), (40 : Int)), .inl ((i : Int), (i : Int))], (W.set 59 (.inr (0, xtl 6 (xup (fun _ => -9) 2 (n : Int))))).set 60 (.inr (0, xtl 240 (xfil (fun _ => 0) 0 80 i))), 0, 0)) xf158_35 rfl ?_
    refine hP.go (r := .inl (58, [(3, .inl ((i : Int), (i : Int))), (0, .inr (.inr (1, 57))), (1, .inl ((2 : Int), (2 : Int))), (2, .inl ((n : Int), (n : Int)))], [], (W.set 59 (.inr (0, xtl 6 (xup (fun _ => -9) 2 (n : Int))))).set 60 (.inr (0, xtl 240 (xfil (fun _ => 0) 0 80 i))), 0, 0)) xf158_37 (sx_icmp (o := true) (xge_of.trans (by simp <;> omega))) ?_
    refine hP.go (r := .inl (59, [(3, .inl ((i : Int), (i : Int))), (0, .inr (.inr (1, 57))), (1, .inl ((2 : Int), (2 : Int))), (2, .inl ((n : Int), (n : Int)))], [.inl ((n : Int), (n : Int))], (W.set 59 (.inr (0, xtl 6 (xup (fun _ => -9) 2 (n : Int))))).set 60 (.inr (0, xtl 240 (xfil (fun _ => 0) 0 80 i))), 0, 0)) xf158_58 rfl ?_
    have e : i = 40 := by omega
    subst e
    exact hP.go (r := .inr (some (.inl ((n : Int), (n : Int))), (W.set 59 (.inr (0, xtl 6 (xup (fun _ => -9) 2 (n : Int))))).set 60 (.inr (0, xtl 240 (xfil (fun _ => 0) 0 80 40))), 0, 0)) xf158_59 rfl hF
  | succ d ih =>
    intro i hi
    have g57 : ((W.set 59 (.inr (0, xtl 6 (xup (fun _ => -9) 2 (n : Int))))).set 60 (.inr (0, xtl 240 (xfil (fun _ => 0) 0 80 i))))[57]? = some xc57 := xset_get (by decide) (xset_get (by decide) h57)
    have g2 : ((W.set 59 (.inr (0, xtl 6 (xup (fun _ => -9) 2 (n : Int))))).set 60 (.inr (0, xtl 240 (xfil (fun _ => 0) 0 80 i))))[60]? = some (.inr (0, xtl 240 (xfil (fun _ => 0) 0 80 i))) := xset_at (by rw [List.length_set]; exact hl)
    refine hP.go (r := .inl (35, [(3, .inl ((i : Int), (i : Int))), (0, .inr (.inr (1, 57))), (1, .inl ((2 : Int), (2 : Int))), (2, .inl ((n : Int), (n : Int)))], [.inl ((i : Int), (i : Int))], (W.set 59 (.inr (0, xtl 6 (xup (fun _ => -9) 2 (n : Int))))).set 60 (.inr (0, xtl 240 (xfil (fun _ => 0) 0 80 i))), 0, 0)) xf158_34 rfl ?_
    refine hP.go (r := .inl (37, [(3, .inl ((i : Int), (i : Int))), (0, .inr (.inr (1, 57))), (1, .inl ((2 : Int), (2 : Int))), (2, .inl ((n : Int), (n : Int)))], [.inl ((40 : Int), (40 : Int)), .inl ((i : Int), (i : Int))], (W.set 59 (.inr (0, xtl 6 (xup (fun _ => -9) 2 (n : Int))))).set 60 (.inr (0, xtl 240 (xfil (fun _ => 0) 0 80 i))), 0, 0)) xf158_35 rfl ?_
    refine hP.go (r := .inl (40, [(3, .inl ((i : Int), (i : Int))), (0, .inr (.inr (1, 57))), (1, .inl ((2 : Int), (2 : Int))), (2, .inl ((n : Int), (n : Int)))], [], (W.set 59 (.inr (0, xtl 6 (xup (fun _ => -9) 2 (n : Int))))).set 60 (.inr (0, xtl 240 (xfil (fun _ => 0) 0 80 i))), 0, 0)) xf158_37 (sx_icmp (o := false) (xge_of.trans (by simp <;> omega))) ?_
    refine hP.go (r := .inl (41, [(3, .inl ((i : Int), (i : Int))), (0, .inr (.inr (1, 57))), (1, .inl ((2 : Int), (2 : Int))), (2, .inl ((n : Int), (n : Int)))], [.inr (.inr (1, 57))], (W.set 59 (.inr (0, xtl 6 (xup (fun _ => -9) 2 (n : Int))))).set 60 (.inr (0, xtl 240 (xfil (fun _ => 0) 0 80 i))), 0, 0)) xf158_40 rfl ?_
    refine hP.go (r := .inl (44, [(3, .inl ((i : Int), (i : Int))), (0, .inr (.inr (1, 57))), (1, .inl ((2 : Int), (2 : Int))), (2, .inl ((n : Int), (n : Int)))], [.inr (.inr (1, 60))], (W.set 59 (.inr (0, xtl 6 (xup (fun _ => -9) 2 (n : Int))))).set 60 (.inr (0, xtl 240 (xfil (fun _ => 0) 0 80 i))), 0, 0)) xf158_41 (sx_get g57 rfl) ?_
    refine hP.go (r := .inl (46, [(3, .inl ((i : Int), (i : Int))), (0, .inr (.inr (1, 57))), (1, .inl ((2 : Int), (2 : Int))), (2, .inl ((n : Int), (n : Int)))], [.inl ((40 : Int), (40 : Int)), .inr (.inr (1, 60))], (W.set 59 (.inr (0, xtl 6 (xup (fun _ => -9) 2 (n : Int))))).set 60 (.inr (0, xtl 240 (xfil (fun _ => 0) 0 80 i))), 0, 0)) xf158_44 rfl ?_
    refine hP.go (r := .inl (47, [(3, .inl ((i : Int), (i : Int))), (0, .inr (.inr (1, 57))), (1, .inl ((2 : Int), (2 : Int))), (2, .inl ((n : Int), (n : Int)))], [.inl ((2 : Int), (2 : Int)), .inl ((40 : Int), (40 : Int)), .inr (.inr (1, 60))], (W.set 59 (.inr (0, xtl 6 (xup (fun _ => -9) 2 (n : Int))))).set 60 (.inr (0, xtl 240 (xfil (fun _ => 0) 0 80 i))), 0, 0)) xf158_46 rfl ?_
    refine hP.go (r := .inl (48, [(3, .inl ((i : Int), (i : Int))), (0, .inr (.inr (1, 57))), (1, .inl ((2 : Int), (2 : Int))), (2, .inl ((n : Int), (n : Int)))], [.inl ((80 : Int), (80 : Int)), .inr (.inr (1, 60))], (W.set 59 (.inr (0, xtl 6 (xup (fun _ => -9) 2 (n : Int))))).set 60 (.inr (0, xtl 240 (xfil (fun _ => 0) 0 80 i))), 0, 0)) xf158_47 (sx_imul (by decide +kernel)) ?_
    refine hP.go (r := .inl (49, [(3, .inl ((i : Int), (i : Int))), (0, .inr (.inr (1, 57))), (1, .inl ((2 : Int), (2 : Int))), (2, .inl ((n : Int), (n : Int)))], [.inl ((i : Int), (i : Int)), .inl ((80 : Int), (80 : Int)), .inr (.inr (1, 60))], (W.set 59 (.inr (0, xtl 6 (xup (fun _ => -9) 2 (n : Int))))).set 60 (.inr (0, xtl 240 (xfil (fun _ => 0) 0 80 i))), 0, 0)) xf158_48 rfl ?_
    refine hP.go (r := .inl (50, [(3, .inl ((i : Int), (i : Int))), (0, .inr (.inr (1, 57))), (1, .inl ((2 : Int), (2 : Int))), (2, .inl ((n : Int), (n : Int)))], [.inl ((80 : Int) + (i : Int), (80 : Int) + (i : Int)), .inr (.inr (1, 60))], (W.set 59 (.inr (0, xtl 6 (xup (fun _ => -9) 2 (n : Int))))).set 60 (.inr (0, xtl 240 (xfil (fun _ => 0) 0 80 i))), 0, 0)) xf158_49 (sx_iadd (by omega)) ?_
    refine hP.go (r := .inl (51, [(3, .inl ((i : Int), (i : Int))), (0, .inr (.inr (1, 57))), (1, .inl ((2 : Int), (2 : Int))), (2, .inl ((n : Int), (n : Int)))], [.inl ((0 : Int), (0 : Int)), .inl ((80 : Int) + (i : Int), (80 : Int) + (i : Int)), .inr (.inr (1, 60))], (W.set 59 (.inr (0, xtl 6 (xup (fun _ => -9) 2 (n : Int))))).set 60 (.inr (0, xtl 240 (xfil (fun _ => 0) 0 80 i))), 0, 0)) xf158_50 rfl ?_
    refine hP.go (r := .inl (52, [(3, .inl ((i : Int), (i : Int))), (0, .inr (.inr (1, 57))), (1, .inl ((2 : Int), (2 : Int))), (2, .inl ((n : Int), (n : Int)))], [], (W.set 59 (.inr (0, xtl 6 (xup (fun _ => -9) 2 (n : Int))))).set 60 (.inr (0, xtl 240 (xup (xfil (fun _ => 0) 0 80 i) (80 + i) 0))), 0, 0)) xf158_51 ((sx_iast g2 (xtl_writez (c := 80 + i) (by omega) (by omega))).trans (by rw [List.set_set])) ?_
    refine hP.go (r := .inl (55, [(3, .inl ((i : Int) + 1, (i : Int) + 1)), (0, .inr (.inr (1, 57))), (1, .inl ((2 : Int), (2 : Int))), (2, .inl ((n : Int), (n : Int)))], [], (W.set 59 (.inr (0, xtl 6 (xup (fun _ => -9) 2 (n : Int))))).set 60 (.inr (0, xtl 240 (xup (xfil (fun _ => 0) 0 80 i) (80 + i) 0))), 0, 0)) xf158_52 (sx_iinc rfl (Nat.le_of_ble_eq_true rfl) (by dsimp only; omega)) ?_
    refine hP.go (r := .inl (34, [(3, .inl ((i : Int) + 1, (i : Int) + 1)), (0, .inr (.inr (1, 57))), (1, .inl ((2 : Int), (2 : Int))), (2, .inl ((n : Int), (n : Int)))], [], (W.set 59 (.inr (0, xtl 6 (xup (fun _ => -9) 2 (n : Int))))).set 60 (.inr (0, xtl 240 (xup (xfil (fun _ => 0) 0 80 i) (80 + i) 0))), 0, 0)) xf158_55 rfl ?_
    have h := ih (i + 1) (by omega)
    rw [show ((i + 1 : Nat) : Int) = (i : Int) + 1 from rfl] at h
    rw [xfil_up]
    exact h
set_option maxRecDepth 100000 in
set_option maxHeartbeats 4000000 in
theorem xo0_2_k {W : XW} (h57 : W[57]? = some xc57) (hsz : W[59]? = some (.inr (0, xtl 6 (fun _ => -9)))) (har : W[60]? = some (.inr (0, xtl 240 (fun _ => 0)))) {n : Nat} (hn : n ≤ 40) : XMet l D vwCl (tysX tA) tA ex (xSTX ++ [xscA]) xSV xNW xNF xTs xm158 [.inr (.inr (1, 57)), .inl (2, 2), .inl ((n : Int), (n : Int))] W (some (.inl ((n : Int), (n : Int)))) ((W.set 59 (.inr (0, xtl 6 (xup (fun _ => -9) 2 (n : Int))))).set 60 (.inr (0, xtl 240 (xfil (fun _ => 0) 0 80 40)))) := by
  have hl : 60 < W.length := (List.getElem?_eq_some_iff.mp har).1
  refine xmet_ofK x_good (x_tysX tA) (x_tysY tA) (x_tysC tA) x_ok (fun j N as w ro w' => xcf_met j N as w ro w') (j := 158) (w2 := (W.set 59 (.inr (0, xtl 6 (xup (fun _ => -9) 2 (n : Int))))).set 60 (.inr (0, xtl 240 (xfil (fun _ => 0) 0 80 40)))) (k2 := 0) (n2 := 0) rfl (Nat.le_of_ble_eq_true rfl) ⟨Nat.le_refl _, Nat.le_refl _⟩ (Or.inr rfl) (fun P hP hF => ?_)
  show P (.inl (0, [(0, .inr (.inr (1, 57))), (1, .inl ((2 : Int), (2 : Int))), (2, .inl ((n : Int), (n : Int)))], [], W, 0, 0))
  refine hP.go (r := .inl (1, [(0, .inr (.inr (1, 57))), (1, .inl ((2 : Int), (2 : Int))), (2, .inl ((n : Int), (n : Int)))], [.inl ((2 : Int), (2 : Int))], W, 0, 0)) xf158_0 rfl ?_
  refine hP.go (r := .inl (4, [(0, .inr (.inr (1, 57))), (1, .inl ((2 : Int), (2 : Int))), (2, .inl ((n : Int), (n : Int)))], [.inl ((1 : Int), (1 : Int))], W, 0, 0)) xf158_1 (sx_calls (N := xm159) (ro := some (.inl ((1 : Int), (1 : Int)))) (w' := W) (k := 0) (n := 0) (by decide) rfl (Nat.le_of_ble_eq_true rfl) (Nat.le_of_ble_eq_true rfl) (Nat.le_of_ble_eq_true rfl) (Nat.le_of_ble_eq_true rfl) (Nat.le_of_ble_eq_true rfl) (Nat.le_of_ble_eq_true rfl) (xo0_2_i)) ?_
  refine hP.go (r := .inl (7, [(0, .inr (.inr (1, 57))), (1, .inl ((2 : Int), (2 : Int))), (2, .inl ((n : Int), (n : Int)))], [], W, 0, 0)) xf158_4 (sx_if (o := false) rfl) ?_
  refine hP.go (r := .inl (8, [(0, .inr (.inr (1, 57))), (1, .inl ((2 : Int), (2 : Int))), (2, .inl ((n : Int), (n : Int)))], [.inl ((n : Int), (n : Int))], W, 0, 0)) xf158_7 rfl ?_
  refine hP.go (r := .inl (10, [(0, .inr (.inr (1, 57))), (1, .inl ((2 : Int), (2 : Int))), (2, .inl ((n : Int), (n : Int)))], [.inl ((40 : Int), (40 : Int)), .inl ((n : Int), (n : Int))], W, 0, 0)) xf158_8 rfl ?_
  refine hP.go (r := .inl (15, [(0, .inr (.inr (1, 57))), (1, .inl ((2 : Int), (2 : Int))), (2, .inl ((n : Int), (n : Int)))], [], W, 0, 0)) xf158_10 (sx_icmp (o := true) (xcle_of.trans (by simp <;> omega))) ?_
  refine hP.go (r := .inl (16, [(0, .inr (.inr (1, 57))), (1, .inl ((2 : Int), (2 : Int))), (2, .inl ((n : Int), (n : Int)))], [.inl ((n : Int), (n : Int))], W, 0, 0)) xf158_15 rfl ?_
  refine hP.go (r := .inl (25, [(0, .inr (.inr (1, 57))), (1, .inl ((2 : Int), (2 : Int))), (2, .inl ((n : Int), (n : Int)))], [], W, 0, 0)) xf158_16 (sx_if (o := true) (xge_of.trans (by simp <;> omega))) ?_
  refine hP.go (r := .inl (26, [(0, .inr (.inr (1, 57))), (1, .inl ((2 : Int), (2 : Int))), (2, .inl ((n : Int), (n : Int)))], [.inr (.inr (1, 57))], W, 0, 0)) xf158_25 rfl ?_
  refine hP.go (r := .inl (29, [(0, .inr (.inr (1, 57))), (1, .inl ((2 : Int), (2 : Int))), (2, .inl ((n : Int), (n : Int)))], [.inr (.inr (1, 59))], W, 0, 0)) xf158_26 (sx_get h57 rfl) ?_
  refine hP.go (r := .inl (30, [(0, .inr (.inr (1, 57))), (1, .inl ((2 : Int), (2 : Int))), (2, .inl ((n : Int), (n : Int)))], [.inl ((2 : Int), (2 : Int)), .inr (.inr (1, 59))], W, 0, 0)) xf158_29 rfl ?_
  refine hP.go (r := .inl (31, [(0, .inr (.inr (1, 57))), (1, .inl ((2 : Int), (2 : Int))), (2, .inl ((n : Int), (n : Int)))], [.inl ((n : Int), (n : Int)), .inl ((2 : Int), (2 : Int)), .inr (.inr (1, 59))], W, 0, 0)) xf158_30 rfl ?_
  refine hP.go (r := .inl (32, [(0, .inr (.inr (1, 57))), (1, .inl ((2 : Int), (2 : Int))), (2, .inl ((n : Int), (n : Int)))], [], (W.set 59 (.inr (0, xtl 6 (xup (fun _ => -9) 2 (n : Int))))), 0, 0)) xf158_31 (sx_iast hsz (xtl_writez (c := 2) rfl (by decide))) ?_
  refine hP.go (r := .inl (33, [(0, .inr (.inr (1, 57))), (1, .inl ((2 : Int), (2 : Int))), (2, .inl ((n : Int), (n : Int)))], [.inl ((0 : Int), (0 : Int))], (W.set 59 (.inr (0, xtl 6 (xup (fun _ => -9) 2 (n : Int))))), 0, 0)) xf158_32 rfl ?_
  refine hP.go (r := .inl (34, [(3, .inl ((0 : Int), (0 : Int))), (0, .inr (.inr (1, 57))), (1, .inl ((2 : Int), (2 : Int))), (2, .inl ((n : Int), (n : Int)))], [], (W.set 59 (.inr (0, xtl 6 (xup (fun _ => -9) 2 (n : Int))))), 0, 0)) xf158_33 rfl ?_
  have h := xo0_2_l hP h57 hl hn hF 40 0 (Nat.zero_add _)
  rw [xfil_0] at h
  have e : (W.set 59 (.inr (0, xtl 6 (xup (fun _ => -9) 2 (n : Int))))).set 60 (.inr (0, xtl 240 (fun _ => 0))) = (W.set 59 (.inr (0, xtl 6 (xup (fun _ => -9) 2 (n : Int))))) := by
    have e1 : (W.set 59 (.inr (0, xtl 6 (xup (fun _ => -9) 2 (n : Int)))))[60]? = some (.inr (0, xtl 240 (fun _ => 0))) := xset_get (by decide) har
    obtain ⟨h1, e2⟩ := List.getElem?_eq_some_iff.mp e1
    rw [← e2]
    exact List.set_getElem_self h1
  rw [e] at h
  exact h
end XRW
def xo0_3_s : XW := [.inl (9, [.inr (.inr (1, 1)), .inr (.inr (1, 2)), .inr (.inr (1, 3)), .inr (.inr (1, 11)), .inr (.inr (1, 12)), .inr (.inr (1, 13)), .inr (.inr (1, 14)), .inr (.inr (1, 16)), .inr (.inr (1, 19)), .inr (.inr (1, 24)), xi 0, xi 0, xi 0, xi 1, xi 0, xi 0, .inr (.inl (some 0)), .inr (.inl (some 0)), .inr (.inl (some 1))]), .inr (3, [.inr (.inr (1, 25)), .inr (.inr (1, 27)), .inr (.inr (1, 29)), .inr (.inr (1, 31)), .inr (.inr (1, 33)), .inr (.inr (1, 35))])]
theorem xo0_3_m : xmrg xo0_3_s xw0 = xw0 := @of_decide_eq_true _ (xd5 _ _) (show @decide _ (xd5 (xmrg xo0_3_s xw0) xw0) = true by decide +kernel)
theorem xo0_3_a : xcf 20 xscA 9 [.inr (.inr (1, 0)), .inl (3, 3)] xw0 = some (some (.inr (.inr (1, 31))), xw0) := by
  have h := xcf_mrg xw0 (N := xm9) rfl rfl (@of_decide_eq_true _ (xd11 _ _) (show @decide _ (xd11 (xcf 20 xscA 9 [.inr (.inr (1, 0)), .inl (3, 3)] xo0_3_s) (some (some (.inr (.inr (1, 31))), xo0_3_s))) = true by decide +kernel))
  rw [xo0_3_m] at h
  exact h
theorem xo0_3_q : xw0[31]? = some (.inl (4, [.inr (.inr (1, 31 + 1)), .inl (-1, -1)])) := rfl
theorem xo0_3_p : xw0[31 + 1]? = some (.inr (0, xtl 40 (fun _ => 0))) := @of_decide_eq_true _ (xd10 _ _) (show @decide _ (xd10 (xw0[31 + 1]?) (some (.inr (0, xtl 40 (fun _ => 0))))) = true by decide +kernel)
abbrev xo0_3_w (n : Nat) : XW := (xw0.set 31 (.inl (4, [.inr (.inr (1, 31 + 1)), .inl ((n : Int), (n : Int))]))).set (31 + 1) (.inr (0, xtl 40 (xfil (fun _ => 0) 0 0 n)))
section XRW
variable {l : Launch} {D : va_G} {tA : Nat → ClassId} {ex : List Nat}
set_option maxRecDepth 100000 in
set_option maxHeartbeats 4000000 in
theorem xo0_3_c {n : Nat} (hn : n ≤ 40) : XMet l D vwCl (tysX tA) tA ex (xSTX ++ [xscA]) xSV xNW xNF xTs xm8 [.inr (.inr (1, 0)), .inl (3, 3), .inl ((n : Int), (n : Int))] xw0 (some (.inl ((n : Int), (n : Int)))) (xo0_3_w n) := by
  refine xmet_ofK x_good (x_tysX tA) (x_tysY tA) (x_tysC tA) x_ok (fun j N as w ro w' => xcf_met j N as w ro w') (j := 8) (w2 := xo0_3_w n) (k2 := 0) (n2 := 0) rfl (Nat.le_of_ble_eq_true rfl) ⟨Nat.le_refl _, Nat.le_refl _⟩ (Or.inr rfl) (fun P hP hF => ?_)
  show P (.inl (0, [(0, .inr (.inr (1, 0))), (1, .inl ((3 : Int), (3 : Int))), (2, .inl ((n : Int), (n : Int)))], [], xw0, 0, 0))
  refine hP.go (r := .inl (1, [(0, .inr (.inr (1, 0))), (1, .inl ((3 : Int), (3 : Int))), (2, .inl ((n : Int), (n : Int)))], [.inr (.inr (1, 0))], xw0, 0, 0)) xf8_0 rfl ?_
  refine hP.go (r := .inl (2, [(0, .inr (.inr (1, 0))), (1, .inl ((3 : Int), (3 : Int))), (2, .inl ((n : Int), (n : Int)))], [.inl ((3 : Int), (3 : Int)), .inr (.inr (1, 0))], xw0, 0, 0)) xf8_1 rfl ?_
  refine hP.go (r := .inl (5, [(0, .inr (.inr (1, 0))), (1, .inl ((3 : Int), (3 : Int))), (2, .inl ((n : Int), (n : Int)))], [.inr (.inr (1, 31))], xw0, 0, 0)) xf8_2 (sx_callv (N := xm9) (ro := some (.inr (.inr (1, 31)))) (w' := xw0) (k := 0) (n := 0) rfl (Nat.le_of_ble_eq_true rfl) (Nat.le_of_ble_eq_true rfl) (Nat.le_of_ble_eq_true rfl) (Nat.le_of_ble_eq_true rfl) (Nat.le_of_ble_eq_true rfl) (Nat.le_of_ble_eq_true rfl) (xrecv_of xw0_0) (xo0_3_a)) ?_
  refine hP.go (r := .inl (6, [(3, .inr (.inr (1, 31))), (0, .inr (.inr (1, 0))), (1, .inl ((3 : Int), (3 : Int))), (2, .inl ((n : Int), (n : Int)))], [], xw0, 0, 0)) xf8_5 rfl ?_
  refine hP.go (r := .inl (7, [(3, .inr (.inr (1, 31))), (0, .inr (.inr (1, 0))), (1, .inl ((3 : Int), (3 : Int))), (2, .inl ((n : Int), (n : Int)))], [.inr (.inr (1, 31))], xw0, 0, 0)) xf8_6 rfl ?_
  refine hP.go (r := .inl (10, [(3, .inr (.inr (1, 31))), (0, .inr (.inr (1, 0))), (1, .inl ((3 : Int), (3 : Int))), (2, .inl ((n : Int), (n : Int)))], [], xw0, 0, 0)) xf8_7 rfl ?_
  refine hP.go (r := .inl (11, [(3, .inr (.inr (1, 31))), (0, .inr (.inr (1, 0))), (1, .inl ((3 : Int), (3 : Int))), (2, .inl ((n : Int), (n : Int)))], [.inl ((n : Int), (n : Int))], xw0, 0, 0)) xf8_10 rfl ?_
  refine hP.go (r := .inl (13, [(3, .inr (.inr (1, 31))), (0, .inr (.inr (1, 0))), (1, .inl ((3 : Int), (3 : Int))), (2, .inl ((n : Int), (n : Int)))], [.inl ((40 : Int), (40 : Int)), .inl ((n : Int), (n : Int))], xw0, 0, 0)) xf8_11 rfl ?_
  refine hP.go (r := .inl (18, [(3, .inr (.inr (1, 31))), (0, .inr (.inr (1, 0))), (1, .inl ((3 : Int), (3 : Int))), (2, .inl ((n : Int), (n : Int)))], [], xw0, 0, 0)) xf8_13 (sx_icmp (o := true) (xcle_of.trans (by simp <;> omega))) ?_
  refine hP.go (r := .inl (19, [(3, .inr (.inr (1, 31))), (0, .inr (.inr (1, 0))), (1, .inl ((3 : Int), (3 : Int))), (2, .inl ((n : Int), (n : Int)))], [.inl ((n : Int), (n : Int))], xw0, 0, 0)) xf8_18 rfl ?_
  refine hP.go (r := .inl (28, [(3, .inr (.inr (1, 31))), (0, .inr (.inr (1, 0))), (1, .inl ((3 : Int), (3 : Int))), (2, .inl ((n : Int), (n : Int)))], [], xw0, 0, 0)) xf8_19 (sx_if (o := true) (xge_of.trans (by simp <;> omega))) ?_
  refine hP.go (r := .inl (29, [(3, .inr (.inr (1, 31))), (0, .inr (.inr (1, 0))), (1, .inl ((3 : Int), (3 : Int))), (2, .inl ((n : Int), (n : Int)))], [.inr (.inr (1, 31))], xw0, 0, 0)) xf8_28 rfl ?_
  refine hP.go (r := .inl (30, [(3, .inr (.inr (1, 31))), (0, .inr (.inr (1, 0))), (1, .inl ((3 : Int), (3 : Int))), (2, .inl ((n : Int), (n : Int)))], [.inl ((n : Int), (n : Int)), .inr (.inr (1, 31))], xw0, 0, 0)) xf8_29 rfl ?_
  refine hP.go (r := .inl (31, [(3, .inr (.inr (1, 31))), (0, .inr (.inr (1, 0))), (1, .inl ((3 : Int), (3 : Int))), (2, .inl ((n : Int), (n : Int)))], [.inl ((0 : Int), (0 : Int)), .inl ((n : Int), (n : Int)), .inr (.inr (1, 31))], xw0, 0, 0)) xf8_30 rfl ?_
  refine hP.2.2.1 _ (34, [(3, .inr (.inr (1, 31))), (0, .inr (.inr (1, 0))), (1, .inl ((3 : Int), (3 : Int))), (2, .inl ((n : Int), (n : Int)))], [], xo0_3_w n, 0, 0) ⟨.invokevirtual 86, 11, 3, 0, xm11, none, xo0_3_w n, xf8_31, rfl, xba_met (q := 31) xo0_3_q xo0_3_p hn, fun cf hc => sx_callv (N := xm11) rfl (Nat.le_of_ble_eq_true rfl) (Nat.le_of_ble_eq_true rfl) (Nat.le_of_ble_eq_true rfl) (Nat.le_of_ble_eq_true rfl) (Nat.le_of_ble_eq_true rfl) (Nat.le_of_ble_eq_true rfl) (xrecv_of xo0_3_q) hc⟩ ?_
  refine hP.go (r := .inl (35, [(3, .inr (.inr (1, 31))), (0, .inr (.inr (1, 0))), (1, .inl ((3 : Int), (3 : Int))), (2, .inl ((n : Int), (n : Int)))], [.inl ((n : Int), (n : Int))], xo0_3_w n, 0, 0)) xf8_34 rfl ?_
  exact hP.go (r := .inr (some (.inl ((n : Int), (n : Int))), xo0_3_w n, 0, 0)) xf8_35 rfl hF
theorem xo0_3_i {W : XW} : xcf 20 xscA 159 [.inl (3, 3)] W = some (some (.inl (1, 1)), W) := xcf_mrg W (w := []) (w' := []) (N := xm159) rfl rfl (@of_decide_eq_true _ (xd11 _ _) (show @decide _ (xd11 (xcf 20 xscA 159 [.inl (3, 3)] []) (some (some (.inl (1, 1)), []))) = true by decide +kernel))
set_option maxRecDepth 100000 in
set_option maxHeartbeats 4000000 in
theorem xo0_3_l {P : XR → Prop} (hP : XCl (xSt xscA xm158) (xJm l D tA ex xscA xm158) P) {W : XW} (h57 : W[57]? = some xc57) (hl : 60 < W.length) {n : Nat} (hn : n ≤ 40) (hF : P (.inr (some (.inl ((n : Int), (n : Int))), (W.set 59 (.inr (0, xtl 6 (xup (fun _ => -9) 3 (n : Int))))).set 60 (.inr (0, xtl 240 (xfil (fun _ => 0) 0 120 40))), 0, 0))) : ∀ (d i : Nat), i + d = 40 → P (.inl (34, [(3, .inl ((i : Int), (i : Int))), (0, .inr (.inr (1, 57))), (1, .inl ((3 : Int), (3 : Int))), (2, .inl ((n : Int), (n : Int)))], [], (W.set 59 (.inr (0, xtl 6 (xup (fun _ => -9) 3 (n : Int))))).set 60 (.inr (0, xtl 240 (xfil (fun _ => 0) 0 120 i))), 0, 0)) := fun d => by
  induction d with
  | zero =>
    intro i hi
    refine hP.go (r := .inl (35, [(3, .inl ((i : Int), (i : Int))), (0, .inr (.inr (1, 57))), (1, .inl ((3 : Int), (3 : Int))), (2, .inl ((n : Int), (n : Int)))], [.inl ((i : Int), (i : Int))], (W.set 59 (.inr (0, xtl 6 (xup (fun _ => -9) 3 (n : Int))))).set 60 (.inr (0, xtl 240 (xfil (fun _ => 0) 0 120 i))), 0, 0)) xf158_34 rfl ?_
    refine hP.go (r := .inl (37, [(3, .inl ((i : Int), (i : Int))), (0, .inr (.inr (1, 57))), (1, .inl ((3 : Int), (3 : Int))), (2, .inl ((n : Int), (n : Int)))], [.inl ((40 : Int), (40 : Int)), .inl ((i : Int), (i : Int))], (W.set 59 (.inr (0, xtl 6 (xup (fun _ => -9) 3 (n : Int))))).set 60 (.inr (0, xtl 240 (xfil (fun _ => 0) 0 120 i))), 0, 0)) xf158_35 rfl ?_
    refine hP.go (r := .inl (58, [(3, .inl ((i : Int), (i : Int))), (0, .inr (.inr (1, 57))), (1, .inl ((3 : Int), (3 : Int))), (2, .inl ((n : Int), (n : Int)))], [], (W.set 59 (.inr (0, xtl 6 (xup (fun _ => -9) 3 (n : Int))))).set 60 (.inr (0, xtl 240 (xfil (fun _ => 0) 0 120 i))), 0, 0)) xf158_37 (sx_icmp (o := true) (xge_of.trans (by simp <;> omega))) ?_
    refine hP.go (r := .inl (59, [(3, .inl ((i : Int), (i : Int))), (0, .inr (.inr (1, 57))), (1, .inl ((3 : Int), (3 : Int))), (2, .inl ((n : Int), (n : Int)))], [.inl ((n : Int), (n : Int))], (W.set 59 (.inr (0, xtl 6 (xup (fun _ => -9) 3 (n : Int))))).set 60 (.inr (0, xtl 240 (xfil (fun _ => 0) 0 120 i))), 0, 0)) xf158_58 rfl ?_
    have e : i = 40 := by omega
    subst e
    exact hP.go (r := .inr (some (.inl ((n : Int), (n : Int))), (W.set 59 (.inr (0, xtl 6 (xup (fun _ => -9) 3 (n : Int))))).set 60 (.inr (0, xtl 240 (xfil (fun _ => 0) 0 120 40))), 0, 0)) xf158_59 rfl hF
  | succ d ih =>
    intro i hi
    have g57 : ((W.set 59 (.inr (0, xtl 6 (xup (fun _ => -9) 3 (n : Int))))).set 60 (.inr (0, xtl 240 (xfil (fun _ => 0) 0 120 i))))[57]? = some xc57 := xset_get (by decide) (xset_get (by decide) h57)
    have g2 : ((W.set 59 (.inr (0, xtl 6 (xup (fun _ => -9) 3 (n : Int))))).set 60 (.inr (0, xtl 240 (xfil (fun _ => 0) 0 120 i))))[60]? = some (.inr (0, xtl 240 (xfil (fun _ => 0) 0 120 i))) := xset_at (by rw [List.length_set]; exact hl)
    refine hP.go (r := .inl (35, [(3, .inl ((i : Int), (i : Int))), (0, .inr (.inr (1, 57))), (1, .inl ((3 : Int), (3 : Int))), (2, .inl ((n : Int), (n : Int)))], [.inl ((i : Int), (i : Int))], (W.set 59 (.inr (0, xtl 6 (xup (fun _ => -9) 3 (n : Int))))).set 60 (.inr (0, xtl 240 (xfil (fun _ => 0) 0 120 i))), 0, 0)) xf158_34 rfl ?_
    refine hP.go (r := .inl (37, [(3, .inl ((i : Int), (i : Int))), (0, .inr (.inr (1, 57))), (1, .inl ((3 : Int), (3 : Int))), (2, .inl ((n : Int), (n : Int)))], [.inl ((40 : Int), (40 : Int)), .inl ((i : Int), (i : Int))], (W.set 59 (.inr (0, xtl 6 (xup (fun _ => -9) 3 (n : Int))))).set 60 (.inr (0, xtl 240 (xfil (fun _ => 0) 0 120 i))), 0, 0)) xf158_35 rfl ?_
    refine hP.go (r := .inl (40, [(3, .inl ((i : Int), (i : Int))), (0, .inr (.inr (1, 57))), (1, .inl ((3 : Int), (3 : Int))), (2, .inl ((n : Int), (n : Int)))], [], (W.set 59 (.inr (0, xtl 6 (xup (fun _ => -9) 3 (n : Int))))).set 60 (.inr (0, xtl 240 (xfil (fun _ => 0) 0 120 i))), 0, 0)) xf158_37 (sx_icmp (o := false) (xge_of.trans (by simp <;> omega))) ?_
    refine hP.go (r := .inl (41, [(3, .inl ((i : Int), (i : Int))), (0, .inr (.inr (1, 57))), (1, .inl ((3 : Int), (3 : Int))), (2, .inl ((n : Int), (n : Int)))], [.inr (.inr (1, 57))], (W.set 59 (.inr (0, xtl 6 (xup (fun _ => -9) 3 (n : Int))))).set 60 (.inr (0, xtl 240 (xfil (fun _ => 0) 0 120 i))), 0, 0)) xf158_40 rfl ?_
    refine hP.go (r := .inl (44, [(3, .inl ((i : Int), (i : Int))), (0, .inr (.inr (1, 57))), (1, .inl ((3 : Int), (3 : Int))), (2, .inl ((n : Int), (n : Int)))], [.inr (.inr (1, 60))], (W.set 59 (.inr (0, xtl 6 (xup (fun _ => -9) 3 (n : Int))))).set 60 (.inr (0, xtl 240 (xfil (fun _ => 0) 0 120 i))), 0, 0)) xf158_41 (sx_get g57 rfl) ?_
    refine hP.go (r := .inl (46, [(3, .inl ((i : Int), (i : Int))), (0, .inr (.inr (1, 57))), (1, .inl ((3 : Int), (3 : Int))), (2, .inl ((n : Int), (n : Int)))], [.inl ((40 : Int), (40 : Int)), .inr (.inr (1, 60))], (W.set 59 (.inr (0, xtl 6 (xup (fun _ => -9) 3 (n : Int))))).set 60 (.inr (0, xtl 240 (xfil (fun _ => 0) 0 120 i))), 0, 0)) xf158_44 rfl ?_
    refine hP.go (r := .inl (47, [(3, .inl ((i : Int), (i : Int))), (0, .inr (.inr (1, 57))), (1, .inl ((3 : Int), (3 : Int))), (2, .inl ((n : Int), (n : Int)))], [.inl ((3 : Int), (3 : Int)), .inl ((40 : Int), (40 : Int)), .inr (.inr (1, 60))], (W.set 59 (.inr (0, xtl 6 (xup (fun _ => -9) 3 (n : Int))))).set 60 (.inr (0, xtl 240 (xfil (fun _ => 0) 0 120 i))), 0, 0)) xf158_46 rfl ?_
    refine hP.go (r := .inl (48, [(3, .inl ((i : Int), (i : Int))), (0, .inr (.inr (1, 57))), (1, .inl ((3 : Int), (3 : Int))), (2, .inl ((n : Int), (n : Int)))], [.inl ((120 : Int), (120 : Int)), .inr (.inr (1, 60))], (W.set 59 (.inr (0, xtl 6 (xup (fun _ => -9) 3 (n : Int))))).set 60 (.inr (0, xtl 240 (xfil (fun _ => 0) 0 120 i))), 0, 0)) xf158_47 (sx_imul (by decide +kernel)) ?_
    refine hP.go (r := .inl (49, [(3, .inl ((i : Int), (i : Int))), (0, .inr (.inr (1, 57))), (1, .inl ((3 : Int), (3 : Int))), (2, .inl ((n : Int), (n : Int)))], [.inl ((i : Int), (i : Int)), .inl ((120 : Int), (120 : Int)), .inr (.inr (1, 60))], (W.set 59 (.inr (0, xtl 6 (xup (fun _ => -9) 3 (n : Int))))).set 60 (.inr (0, xtl 240 (xfil (fun _ => 0) 0 120 i))), 0, 0)) xf158_48 rfl ?_
    refine hP.go (r := .inl (50, [(3, .inl ((i : Int), (i : Int))), (0, .inr (.inr (1, 57))), (1, .inl ((3 : Int), (3 : Int))), (2, .inl ((n : Int), (n : Int)))], [.inl ((120 : Int) + (i : Int), (120 : Int) + (i : Int)), .inr (.inr (1, 60))], (W.set 59 (.inr (0, xtl 6 (xup (fun _ => -9) 3 (n : Int))))).set 60 (.inr (0, xtl 240 (xfil (fun _ => 0) 0 120 i))), 0, 0)) xf158_49 (sx_iadd (by omega)) ?_
    refine hP.go (r := .inl (51, [(3, .inl ((i : Int), (i : Int))), (0, .inr (.inr (1, 57))), (1, .inl ((3 : Int), (3 : Int))), (2, .inl ((n : Int), (n : Int)))], [.inl ((0 : Int), (0 : Int)), .inl ((120 : Int) + (i : Int), (120 : Int) + (i : Int)), .inr (.inr (1, 60))], (W.set 59 (.inr (0, xtl 6 (xup (fun _ => -9) 3 (n : Int))))).set 60 (.inr (0, xtl 240 (xfil (fun _ => 0) 0 120 i))), 0, 0)) xf158_50 rfl ?_
    refine hP.go (r := .inl (52, [(3, .inl ((i : Int), (i : Int))), (0, .inr (.inr (1, 57))), (1, .inl ((3 : Int), (3 : Int))), (2, .inl ((n : Int), (n : Int)))], [], (W.set 59 (.inr (0, xtl 6 (xup (fun _ => -9) 3 (n : Int))))).set 60 (.inr (0, xtl 240 (xup (xfil (fun _ => 0) 0 120 i) (120 + i) 0))), 0, 0)) xf158_51 ((sx_iast g2 (xtl_writez (c := 120 + i) (by omega) (by omega))).trans (by rw [List.set_set])) ?_
    refine hP.go (r := .inl (55, [(3, .inl ((i : Int) + 1, (i : Int) + 1)), (0, .inr (.inr (1, 57))), (1, .inl ((3 : Int), (3 : Int))), (2, .inl ((n : Int), (n : Int)))], [], (W.set 59 (.inr (0, xtl 6 (xup (fun _ => -9) 3 (n : Int))))).set 60 (.inr (0, xtl 240 (xup (xfil (fun _ => 0) 0 120 i) (120 + i) 0))), 0, 0)) xf158_52 (sx_iinc rfl (Nat.le_of_ble_eq_true rfl) (by dsimp only; omega)) ?_
    refine hP.go (r := .inl (34, [(3, .inl ((i : Int) + 1, (i : Int) + 1)), (0, .inr (.inr (1, 57))), (1, .inl ((3 : Int), (3 : Int))), (2, .inl ((n : Int), (n : Int)))], [], (W.set 59 (.inr (0, xtl 6 (xup (fun _ => -9) 3 (n : Int))))).set 60 (.inr (0, xtl 240 (xup (xfil (fun _ => 0) 0 120 i) (120 + i) 0))), 0, 0)) xf158_55 rfl ?_
    have h := ih (i + 1) (by omega)
    rw [show ((i + 1 : Nat) : Int) = (i : Int) + 1 from rfl] at h
    rw [xfil_up]
    exact h
set_option maxRecDepth 100000 in
set_option maxHeartbeats 4000000 in
theorem xo0_3_k {W : XW} (h57 : W[57]? = some xc57) (hsz : W[59]? = some (.inr (0, xtl 6 (fun _ => -9)))) (har : W[60]? = some (.inr (0, xtl 240 (fun _ => 0)))) {n : Nat} (hn : n ≤ 40) : XMet l D vwCl (tysX tA) tA ex (xSTX ++ [xscA]) xSV xNW xNF xTs xm158 [.inr (.inr (1, 57)), .inl (3, 3), .inl ((n : Int), (n : Int))] W (some (.inl ((n : Int), (n : Int)))) ((W.set 59 (.inr (0, xtl 6 (xup (fun _ => -9) 3 (n : Int))))).set 60 (.inr (0, xtl 240 (xfil (fun _ => 0) 0 120 40)))) := by
  have hl : 60 < W.length := (List.getElem?_eq_some_iff.mp har).1
  refine xmet_ofK x_good (x_tysX tA) (x_tysY tA) (x_tysC tA) x_ok (fun j N as w ro w' => xcf_met j N as w ro w') (j := 158) (w2 := (W.set 59 (.inr (0, xtl 6 (xup (fun _ => -9) 3 (n : Int))))).set 60 (.inr (0, xtl 240 (xfil (fun _ => 0) 0 120 40)))) (k2 := 0) (n2 := 0) rfl (Nat.le_of_ble_eq_true rfl) ⟨Nat.le_refl _, Nat.le_refl _⟩ (Or.inr rfl) (fun P hP hF => ?_)
  show P (.inl (0, [(0, .inr (.inr (1, 57))), (1, .inl ((3 : Int), (3 : Int))), (2, .inl ((n : Int), (n : Int)))], [], W, 0, 0))
  refine hP.go (r := .inl (1, [(0, .inr (.inr (1, 57))), (1, .inl ((3 : Int), (3 : Int))), (2, .inl ((n : Int), (n : Int)))], [.inl ((3 : Int), (3 : Int))], W, 0, 0)) xf158_0 rfl ?_
  refine hP.go (r := .inl (4, [(0, .inr (.inr (1, 57))), (1, .inl ((3 : Int), (3 : Int))), (2, .inl ((n : Int), (n : Int)))], [.inl ((1 : Int), (1 : Int))], W, 0, 0)) xf158_1 (sx_calls (N := xm159) (ro := some (.inl ((1 : Int), (1 : Int)))) (w' := W) (k := 0) (n := 0) (by decide) rfl (Nat.le_of_ble_eq_true rfl) (Nat.le_of_ble_eq_true rfl) (Nat.le_of_ble_eq_true rfl) (Nat.le_of_ble_eq_true rfl) (Nat.le_of_ble_eq_true rfl) (Nat.le_of_ble_eq_true rfl) (xo0_3_i)) ?_
  refine hP.go (r := .inl (7, [(0, .inr (.inr (1, 57))), (1, .inl ((3 : Int), (3 : Int))), (2, .inl ((n : Int), (n : Int)))], [], W, 0, 0)) xf158_4 (sx_if (o := false) rfl) ?_
  refine hP.go (r := .inl (8, [(0, .inr (.inr (1, 57))), (1, .inl ((3 : Int), (3 : Int))), (2, .inl ((n : Int), (n : Int)))], [.inl ((n : Int), (n : Int))], W, 0, 0)) xf158_7 rfl ?_
  refine hP.go (r := .inl (10, [(0, .inr (.inr (1, 57))), (1, .inl ((3 : Int), (3 : Int))), (2, .inl ((n : Int), (n : Int)))], [.inl ((40 : Int), (40 : Int)), .inl ((n : Int), (n : Int))], W, 0, 0)) xf158_8 rfl ?_
  refine hP.go (r := .inl (15, [(0, .inr (.inr (1, 57))), (1, .inl ((3 : Int), (3 : Int))), (2, .inl ((n : Int), (n : Int)))], [], W, 0, 0)) xf158_10 (sx_icmp (o := true) (xcle_of.trans (by simp <;> omega))) ?_
  refine hP.go (r := .inl (16, [(0, .inr (.inr (1, 57))), (1, .inl ((3 : Int), (3 : Int))), (2, .inl ((n : Int), (n : Int)))], [.inl ((n : Int), (n : Int))], W, 0, 0)) xf158_15 rfl ?_
  refine hP.go (r := .inl (25, [(0, .inr (.inr (1, 57))), (1, .inl ((3 : Int), (3 : Int))), (2, .inl ((n : Int), (n : Int)))], [], W, 0, 0)) xf158_16 (sx_if (o := true) (xge_of.trans (by simp <;> omega))) ?_
  refine hP.go (r := .inl (26, [(0, .inr (.inr (1, 57))), (1, .inl ((3 : Int), (3 : Int))), (2, .inl ((n : Int), (n : Int)))], [.inr (.inr (1, 57))], W, 0, 0)) xf158_25 rfl ?_
  refine hP.go (r := .inl (29, [(0, .inr (.inr (1, 57))), (1, .inl ((3 : Int), (3 : Int))), (2, .inl ((n : Int), (n : Int)))], [.inr (.inr (1, 59))], W, 0, 0)) xf158_26 (sx_get h57 rfl) ?_
  refine hP.go (r := .inl (30, [(0, .inr (.inr (1, 57))), (1, .inl ((3 : Int), (3 : Int))), (2, .inl ((n : Int), (n : Int)))], [.inl ((3 : Int), (3 : Int)), .inr (.inr (1, 59))], W, 0, 0)) xf158_29 rfl ?_
  refine hP.go (r := .inl (31, [(0, .inr (.inr (1, 57))), (1, .inl ((3 : Int), (3 : Int))), (2, .inl ((n : Int), (n : Int)))], [.inl ((n : Int), (n : Int)), .inl ((3 : Int), (3 : Int)), .inr (.inr (1, 59))], W, 0, 0)) xf158_30 rfl ?_
  refine hP.go (r := .inl (32, [(0, .inr (.inr (1, 57))), (1, .inl ((3 : Int), (3 : Int))), (2, .inl ((n : Int), (n : Int)))], [], (W.set 59 (.inr (0, xtl 6 (xup (fun _ => -9) 3 (n : Int))))), 0, 0)) xf158_31 (sx_iast hsz (xtl_writez (c := 3) rfl (by decide))) ?_
  refine hP.go (r := .inl (33, [(0, .inr (.inr (1, 57))), (1, .inl ((3 : Int), (3 : Int))), (2, .inl ((n : Int), (n : Int)))], [.inl ((0 : Int), (0 : Int))], (W.set 59 (.inr (0, xtl 6 (xup (fun _ => -9) 3 (n : Int))))), 0, 0)) xf158_32 rfl ?_
  refine hP.go (r := .inl (34, [(3, .inl ((0 : Int), (0 : Int))), (0, .inr (.inr (1, 57))), (1, .inl ((3 : Int), (3 : Int))), (2, .inl ((n : Int), (n : Int)))], [], (W.set 59 (.inr (0, xtl 6 (xup (fun _ => -9) 3 (n : Int))))), 0, 0)) xf158_33 rfl ?_
  have h := xo0_3_l hP h57 hl hn hF 40 0 (Nat.zero_add _)
  rw [xfil_0] at h
  have e : (W.set 59 (.inr (0, xtl 6 (xup (fun _ => -9) 3 (n : Int))))).set 60 (.inr (0, xtl 240 (fun _ => 0))) = (W.set 59 (.inr (0, xtl 6 (xup (fun _ => -9) 3 (n : Int))))) := by
    have e1 : (W.set 59 (.inr (0, xtl 6 (xup (fun _ => -9) 3 (n : Int)))))[60]? = some (.inr (0, xtl 240 (fun _ => 0))) := xset_get (by decide) har
    obtain ⟨h1, e2⟩ := List.getElem?_eq_some_iff.mp e1
    rw [← e2]
    exact List.set_getElem_self h1
  rw [e] at h
  exact h
end XRW
def xo0_4_s : XW := [.inl (9, [.inr (.inr (1, 1)), .inr (.inr (1, 2)), .inr (.inr (1, 3)), .inr (.inr (1, 11)), .inr (.inr (1, 12)), .inr (.inr (1, 13)), .inr (.inr (1, 14)), .inr (.inr (1, 16)), .inr (.inr (1, 19)), .inr (.inr (1, 24)), xi 0, xi 0, xi 0, xi 1, xi 0, xi 0, .inr (.inl (some 0)), .inr (.inl (some 0)), .inr (.inl (some 1))]), .inr (3, [.inr (.inr (1, 25)), .inr (.inr (1, 27)), .inr (.inr (1, 29)), .inr (.inr (1, 31)), .inr (.inr (1, 33)), .inr (.inr (1, 35))])]
theorem xo0_4_m : xmrg xo0_4_s xw0 = xw0 := @of_decide_eq_true _ (xd5 _ _) (show @decide _ (xd5 (xmrg xo0_4_s xw0) xw0) = true by decide +kernel)
theorem xo0_4_a : xcf 20 xscA 9 [.inr (.inr (1, 0)), .inl (4, 4)] xw0 = some (some (.inr (.inr (1, 33))), xw0) := by
  have h := xcf_mrg xw0 (N := xm9) rfl rfl (@of_decide_eq_true _ (xd11 _ _) (show @decide _ (xd11 (xcf 20 xscA 9 [.inr (.inr (1, 0)), .inl (4, 4)] xo0_4_s) (some (some (.inr (.inr (1, 33))), xo0_4_s))) = true by decide +kernel))
  rw [xo0_4_m] at h
  exact h
theorem xo0_4_q : xw0[33]? = some (.inl (4, [.inr (.inr (1, 33 + 1)), .inl (-1, -1)])) := rfl
theorem xo0_4_p : xw0[33 + 1]? = some (.inr (0, xtl 40 (fun _ => 0))) := @of_decide_eq_true _ (xd10 _ _) (show @decide _ (xd10 (xw0[33 + 1]?) (some (.inr (0, xtl 40 (fun _ => 0))))) = true by decide +kernel)
abbrev xo0_4_w (n : Nat) : XW := (xw0.set 33 (.inl (4, [.inr (.inr (1, 33 + 1)), .inl ((n : Int), (n : Int))]))).set (33 + 1) (.inr (0, xtl 40 (xfil (fun _ => 0) 0 0 n)))
section XRW
variable {l : Launch} {D : va_G} {tA : Nat → ClassId} {ex : List Nat}
set_option maxRecDepth 100000 in
set_option maxHeartbeats 4000000 in
theorem xo0_4_c {n : Nat} (hn : n ≤ 40) : XMet l D vwCl (tysX tA) tA ex (xSTX ++ [xscA]) xSV xNW xNF xTs xm8 [.inr (.inr (1, 0)), .inl (4, 4), .inl ((n : Int), (n : Int))] xw0 (some (.inl ((n : Int), (n : Int)))) (xo0_4_w n) := by
  refine xmet_ofK x_good (x_tysX tA) (x_tysY tA) (x_tysC tA) x_ok (fun j N as w ro w' => xcf_met j N as w ro w') (j := 8) (w2 := xo0_4_w n) (k2 := 0) (n2 := 0) rfl (Nat.le_of_ble_eq_true rfl) ⟨Nat.le_refl _, Nat.le_refl _⟩ (Or.inr rfl) (fun P hP hF => ?_)
  show P (.inl (0, [(0, .inr (.inr (1, 0))), (1, .inl ((4 : Int), (4 : Int))), (2, .inl ((n : Int), (n : Int)))], [], xw0, 0, 0))
  refine hP.go (r := .inl (1, [(0, .inr (.inr (1, 0))), (1, .inl ((4 : Int), (4 : Int))), (2, .inl ((n : Int), (n : Int)))], [.inr (.inr (1, 0))], xw0, 0, 0)) xf8_0 rfl ?_
  refine hP.go (r := .inl (2, [(0, .inr (.inr (1, 0))), (1, .inl ((4 : Int), (4 : Int))), (2, .inl ((n : Int), (n : Int)))], [.inl ((4 : Int), (4 : Int)), .inr (.inr (1, 0))], xw0, 0, 0)) xf8_1 rfl ?_
  refine hP.go (r := .inl (5, [(0, .inr (.inr (1, 0))), (1, .inl ((4 : Int), (4 : Int))), (2, .inl ((n : Int), (n : Int)))], [.inr (.inr (1, 33))], xw0, 0, 0)) xf8_2 (sx_callv (N := xm9) (ro := some (.inr (.inr (1, 33)))) (w' := xw0) (k := 0) (n := 0) rfl (Nat.le_of_ble_eq_true rfl) (Nat.le_of_ble_eq_true rfl) (Nat.le_of_ble_eq_true rfl) (Nat.le_of_ble_eq_true rfl) (Nat.le_of_ble_eq_true rfl) (Nat.le_of_ble_eq_true rfl) (xrecv_of xw0_0) (xo0_4_a)) ?_
  refine hP.go (r := .inl (6, [(3, .inr (.inr (1, 33))), (0, .inr (.inr (1, 0))), (1, .inl ((4 : Int), (4 : Int))), (2, .inl ((n : Int), (n : Int)))], [], xw0, 0, 0)) xf8_5 rfl ?_
  refine hP.go (r := .inl (7, [(3, .inr (.inr (1, 33))), (0, .inr (.inr (1, 0))), (1, .inl ((4 : Int), (4 : Int))), (2, .inl ((n : Int), (n : Int)))], [.inr (.inr (1, 33))], xw0, 0, 0)) xf8_6 rfl ?_
  refine hP.go (r := .inl (10, [(3, .inr (.inr (1, 33))), (0, .inr (.inr (1, 0))), (1, .inl ((4 : Int), (4 : Int))), (2, .inl ((n : Int), (n : Int)))], [], xw0, 0, 0)) xf8_7 rfl ?_
  refine hP.go (r := .inl (11, [(3, .inr (.inr (1, 33))), (0, .inr (.inr (1, 0))), (1, .inl ((4 : Int), (4 : Int))), (2, .inl ((n : Int), (n : Int)))], [.inl ((n : Int), (n : Int))], xw0, 0, 0)) xf8_10 rfl ?_
  refine hP.go (r := .inl (13, [(3, .inr (.inr (1, 33))), (0, .inr (.inr (1, 0))), (1, .inl ((4 : Int), (4 : Int))), (2, .inl ((n : Int), (n : Int)))], [.inl ((40 : Int), (40 : Int)), .inl ((n : Int), (n : Int))], xw0, 0, 0)) xf8_11 rfl ?_
  refine hP.go (r := .inl (18, [(3, .inr (.inr (1, 33))), (0, .inr (.inr (1, 0))), (1, .inl ((4 : Int), (4 : Int))), (2, .inl ((n : Int), (n : Int)))], [], xw0, 0, 0)) xf8_13 (sx_icmp (o := true) (xcle_of.trans (by simp <;> omega))) ?_
  refine hP.go (r := .inl (19, [(3, .inr (.inr (1, 33))), (0, .inr (.inr (1, 0))), (1, .inl ((4 : Int), (4 : Int))), (2, .inl ((n : Int), (n : Int)))], [.inl ((n : Int), (n : Int))], xw0, 0, 0)) xf8_18 rfl ?_
  refine hP.go (r := .inl (28, [(3, .inr (.inr (1, 33))), (0, .inr (.inr (1, 0))), (1, .inl ((4 : Int), (4 : Int))), (2, .inl ((n : Int), (n : Int)))], [], xw0, 0, 0)) xf8_19 (sx_if (o := true) (xge_of.trans (by simp <;> omega))) ?_
  refine hP.go (r := .inl (29, [(3, .inr (.inr (1, 33))), (0, .inr (.inr (1, 0))), (1, .inl ((4 : Int), (4 : Int))), (2, .inl ((n : Int), (n : Int)))], [.inr (.inr (1, 33))], xw0, 0, 0)) xf8_28 rfl ?_
  refine hP.go (r := .inl (30, [(3, .inr (.inr (1, 33))), (0, .inr (.inr (1, 0))), (1, .inl ((4 : Int), (4 : Int))), (2, .inl ((n : Int), (n : Int)))], [.inl ((n : Int), (n : Int)), .inr (.inr (1, 33))], xw0, 0, 0)) xf8_29 rfl ?_
  refine hP.go (r := .inl (31, [(3, .inr (.inr (1, 33))), (0, .inr (.inr (1, 0))), (1, .inl ((4 : Int), (4 : Int))), (2, .inl ((n : Int), (n : Int)))], [.inl ((0 : Int), (0 : Int)), .inl ((n : Int), (n : Int)), .inr (.inr (1, 33))], xw0, 0, 0)) xf8_30 rfl ?_
  refine hP.2.2.1 _ (34, [(3, .inr (.inr (1, 33))), (0, .inr (.inr (1, 0))), (1, .inl ((4 : Int), (4 : Int))), (2, .inl ((n : Int), (n : Int)))], [], xo0_4_w n, 0, 0) ⟨.invokevirtual 86, 11, 3, 0, xm11, none, xo0_4_w n, xf8_31, rfl, xba_met (q := 33) xo0_4_q xo0_4_p hn, fun cf hc => sx_callv (N := xm11) rfl (Nat.le_of_ble_eq_true rfl) (Nat.le_of_ble_eq_true rfl) (Nat.le_of_ble_eq_true rfl) (Nat.le_of_ble_eq_true rfl) (Nat.le_of_ble_eq_true rfl) (Nat.le_of_ble_eq_true rfl) (xrecv_of xo0_4_q) hc⟩ ?_
  refine hP.go (r := .inl (35, [(3, .inr (.inr (1, 33))), (0, .inr (.inr (1, 0))), (1, .inl ((4 : Int), (4 : Int))), (2, .inl ((n : Int), (n : Int)))], [.inl ((n : Int), (n : Int))], xo0_4_w n, 0, 0)) xf8_34 rfl ?_
  exact hP.go (r := .inr (some (.inl ((n : Int), (n : Int))), xo0_4_w n, 0, 0)) xf8_35 rfl hF
theorem xo0_4_i {W : XW} : xcf 20 xscA 159 [.inl (4, 4)] W = some (some (.inl (1, 1)), W) := xcf_mrg W (w := []) (w' := []) (N := xm159) rfl rfl (@of_decide_eq_true _ (xd11 _ _) (show @decide _ (xd11 (xcf 20 xscA 159 [.inl (4, 4)] []) (some (some (.inl (1, 1)), []))) = true by decide +kernel))
set_option maxRecDepth 100000 in
set_option maxHeartbeats 4000000 in
theorem xo0_4_l {P : XR → Prop} (hP : XCl (xSt xscA xm158) (xJm l D tA ex xscA xm158) P) {W : XW} (h57 : W[57]? = some xc57) (hl : 60 < W.length) {n : Nat} (hn : n ≤ 40) (hF : P (.inr (some (.inl ((n : Int), (n : Int))), (W.set 59 (.inr (0, xtl 6 (xup (fun _ => -9) 4 (n : Int))))).set 60 (.inr (0, xtl 240 (xfil (fun _ => 0) 0 160 40))), 0, 0))) : ∀ (d i : Nat), i + d = 40 → P (.inl (34, [(3, .inl ((i : Int), (i : Int))), (0, .inr (.inr (1, 57))), (1, .inl ((4 : Int), (4 : Int))), (2, .inl ((n : Int), (n : Int)))], [], (W.set 59 (.inr (0, xtl 6 (xup (fun _ => -9) 4 (n : Int))))).set 60 (.inr (0, xtl 240 (xfil (fun _ => 0) 0 160 i))), 0, 0)) := fun d => by
  induction d with
  | zero =>
    intro i hi
    refine hP.go (r := .inl (35, [(3, .inl ((i : Int), (i : Int))), (0, .inr (.inr (1, 57))), (1, .inl ((4 : Int), (4 : Int))), (2, .inl ((n : Int), (n : Int)))], [.inl ((i : Int), (i : Int))], (W.set 59 (.inr (0, xtl 6 (xup (fun _ => -9) 4 (n : Int))))).set 60 (.inr (0, xtl 240 (xfil (fun _ => 0) 0 160 i))), 0, 0)) xf158_34 rfl ?_
    refine hP.go (r := .inl (37, [(3, .inl ((i : Int), (i : Int))), (0, .inr (.inr (1, 57))), (1, .inl ((4 : Int), (4 : Int))), (2, .inl ((n : Int), (n : Int)))], [.inl ((40 : Int), (40 : Int)), .inl ((i : Int), (i : Int))], (W.set 59 (.inr (0, xtl 6 (xup (fun _ => -9) 4 (n : Int))))).set 60 (.inr (0, xtl 240 (xfil (fun _ => 0) 0 160 i))), 0, 0)) xf158_35 rfl ?_
    refine hP.go (r := .inl (58, [(3, .inl ((i : Int), (i : Int))), (0, .inr (.inr (1, 57))), (1, .inl ((4 : Int), (4 : Int))), (2, .inl ((n : Int), (n : Int)))], [], (W.set 59 (.inr (0, xtl 6 (xup (fun _ => -9) 4 (n : Int))))).set 60 (.inr (0, xtl 240 (xfil (fun _ => 0) 0 160 i))), 0, 0)) xf158_37 (sx_icmp (o := true) (xge_of.trans (by simp <;> omega))) ?_
    refine hP.go (r := .inl (59, [(3, .inl ((i : Int), (i : Int))), (0, .inr (.inr (1, 57))), (1, .inl ((4 : Int), (4 : Int))), (2, .inl ((n : Int), (n : Int)))], [.inl ((n : Int), (n : Int))], (W.set 59 (.inr (0, xtl 6 (xup (fun _ => -9) 4 (n : Int))))).set 60 (.inr (0, xtl 240 (xfil (fun _ => 0) 0 160 i))), 0, 0)) xf158_58 rfl ?_
    have e : i = 40 := by omega
    subst e
    exact hP.go (r := .inr (some (.inl ((n : Int), (n : Int))), (W.set 59 (.inr (0, xtl 6 (xup (fun _ => -9) 4 (n : Int))))).set 60 (.inr (0, xtl 240 (xfil (fun _ => 0) 0 160 40))), 0, 0)) xf158_59 rfl hF
  | succ d ih =>
    intro i hi
    have g57 : ((W.set 59 (.inr (0, xtl 6 (xup (fun _ => -9) 4 (n : Int))))).set 60 (.inr (0, xtl 240 (xfil (fun _ => 0) 0 160 i))))[57]? = some xc57 := xset_get (by decide) (xset_get (by decide) h57)
    have g2 : ((W.set 59 (.inr (0, xtl 6 (xup (fun _ => -9) 4 (n : Int))))).set 60 (.inr (0, xtl 240 (xfil (fun _ => 0) 0 160 i))))[60]? = some (.inr (0, xtl 240 (xfil (fun _ => 0) 0 160 i))) := xset_at (by rw [List.length_set]; exact hl)
    refine hP.go (r := .inl (35, [(3, .inl ((i : Int), (i : Int))), (0, .inr (.inr (1, 57))), (1, .inl ((4 : Int), (4 : Int))), (2, .inl ((n : Int), (n : Int)))], [.inl ((i : Int), (i : Int))], (W.set 59 (.inr (0, xtl 6 (xup (fun _ => -9) 4 (n : Int))))).set 60 (.inr (0, xtl 240 (xfil (fun _ => 0) 0 160 i))), 0, 0)) xf158_34 rfl ?_
    refine hP.go (r := .inl (37, [(3, .inl ((i : Int), (i : Int))), (0, .inr (.inr (1, 57))), (1, .inl ((4 : Int), (4 : Int))), (2, .inl ((n : Int), (n : Int)))], [.inl ((40 : Int), (40 : Int)), .inl ((i : Int), (i : Int))], (W.set 59 (.inr (0, xtl 6 (xup (fun _ => -9) 4 (n : Int))))).set 60 (.inr (0, xtl 240 (xfil (fun _ => 0) 0 160 i))), 0, 0)) xf158_35 rfl ?_
    refine hP.go (r := .inl (40, [(3, .inl ((i : Int), (i : Int))), (0, .inr (.inr (1, 57))), (1, .inl ((4 : Int), (4 : Int))), (2, .inl ((n : Int), (n : Int)))], [], (W.set 59 (.inr (0, xtl 6 (xup (fun _ => -9) 4 (n : Int))))).set 60 (.inr (0, xtl 240 (xfil (fun _ => 0) 0 160 i))), 0, 0)) xf158_37 (sx_icmp (o := false) (xge_of.trans (by simp <;> omega))) ?_
    refine hP.go (r := .inl (41, [(3, .inl ((i : Int), (i : Int))), (0, .inr (.inr (1, 57))), (1, .inl ((4 : Int), (4 : Int))), (2, .inl ((n : Int), (n : Int)))], [.inr (.inr (1, 57))], (W.set 59 (.inr (0, xtl 6 (xup (fun _ => -9) 4 (n : Int))))).set 60 (.inr (0, xtl 240 (xfil (fun _ => 0) 0 160 i))), 0, 0)) xf158_40 rfl ?_
    refine hP.go (r := .inl (44, [(3, .inl ((i : Int), (i : Int))), (0, .inr (.inr (1, 57))), (1, .inl ((4 : Int), (4 : Int))), (2, .inl ((n : Int), (n : Int)))], [.inr (.inr (1, 60))], (W.set 59 (.inr (0, xtl 6 (xup (fun _ => -9) 4 (n : Int))))).set 60 (.inr (0, xtl 240 (xfil (fun _ => 0) 0 160 i))), 0, 0)) xf158_41 (sx_get g57 rfl) ?_
    refine hP.go (r := .inl (46, [(3, .inl ((i : Int), (i : Int))), (0, .inr (.inr (1, 57))), (1, .inl ((4 : Int), (4 : Int))), (2, .inl ((n : Int), (n : Int)))], [.inl ((40 : Int), (40 : Int)), .inr (.inr (1, 60))], (W.set 59 (.inr (0, xtl 6 (xup (fun _ => -9) 4 (n : Int))))).set 60 (.inr (0, xtl 240 (xfil (fun _ => 0) 0 160 i))), 0, 0)) xf158_44 rfl ?_
    refine hP.go (r := .inl (47, [(3, .inl ((i : Int), (i : Int))), (0, .inr (.inr (1, 57))), (1, .inl ((4 : Int), (4 : Int))), (2, .inl ((n : Int), (n : Int)))], [.inl ((4 : Int), (4 : Int)), .inl ((40 : Int), (40 : Int)), .inr (.inr (1, 60))], (W.set 59 (.inr (0, xtl 6 (xup (fun _ => -9) 4 (n : Int))))).set 60 (.inr (0, xtl 240 (xfil (fun _ => 0) 0 160 i))), 0, 0)) xf158_46 rfl ?_
    refine hP.go (r := .inl (48, [(3, .inl ((i : Int), (i : Int))), (0, .inr (.inr (1, 57))), (1, .inl ((4 : Int), (4 : Int))), (2, .inl ((n : Int), (n : Int)))], [.inl ((160 : Int), (160 : Int)), .inr (.inr (1, 60))], (W.set 59 (.inr (0, xtl 6 (xup (fun _ => -9) 4 (n : Int))))).set 60 (.inr (0, xtl 240 (xfil (fun _ => 0) 0 160 i))), 0, 0)) xf158_47 (sx_imul (by decide +kernel)) ?_
    refine hP.go (r := .inl (49, [(3, .inl ((i : Int), (i : Int))), (0, .inr (.inr (1, 57))), (1, .inl ((4 : Int), (4 : Int))), (2, .inl ((n : Int), (n : Int)))], [.inl ((i : Int), (i : Int)), .inl ((160 : Int), (160 : Int)), .inr (.inr (1, 60))], (W.set 59 (.inr (0, xtl 6 (xup (fun _ => -9) 4 (n : Int))))).set 60 (.inr (0, xtl 240 (xfil (fun _ => 0) 0 160 i))), 0, 0)) xf158_48 rfl ?_
    refine hP.go (r := .inl (50, [(3, .inl ((i : Int), (i : Int))), (0, .inr (.inr (1, 57))), (1, .inl ((4 : Int), (4 : Int))), (2, .inl ((n : Int), (n : Int)))], [.inl ((160 : Int) + (i : Int), (160 : Int) + (i : Int)), .inr (.inr (1, 60))], (W.set 59 (.inr (0, xtl 6 (xup (fun _ => -9) 4 (n : Int))))).set 60 (.inr (0, xtl 240 (xfil (fun _ => 0) 0 160 i))), 0, 0)) xf158_49 (sx_iadd (by omega)) ?_
    refine hP.go (r := .inl (51, [(3, .inl ((i : Int), (i : Int))), (0, .inr (.inr (1, 57))), (1, .inl ((4 : Int), (4 : Int))), (2, .inl ((n : Int), (n : Int)))], [.inl ((0 : Int), (0 : Int)), .inl ((160 : Int) + (i : Int), (160 : Int) + (i : Int)), .inr (.inr (1, 60))], (W.set 59 (.inr (0, xtl 6 (xup (fun _ => -9) 4 (n : Int))))).set 60 (.inr (0, xtl 240 (xfil (fun _ => 0) 0 160 i))), 0, 0)) xf158_50 rfl ?_
    refine hP.go (r := .inl (52, [(3, .inl ((i : Int), (i : Int))), (0, .inr (.inr (1, 57))), (1, .inl ((4 : Int), (4 : Int))), (2, .inl ((n : Int), (n : Int)))], [], (W.set 59 (.inr (0, xtl 6 (xup (fun _ => -9) 4 (n : Int))))).set 60 (.inr (0, xtl 240 (xup (xfil (fun _ => 0) 0 160 i) (160 + i) 0))), 0, 0)) xf158_51 ((sx_iast g2 (xtl_writez (c := 160 + i) (by omega) (by omega))).trans (by rw [List.set_set])) ?_
    refine hP.go (r := .inl (55, [(3, .inl ((i : Int) + 1, (i : Int) + 1)), (0, .inr (.inr (1, 57))), (1, .inl ((4 : Int), (4 : Int))), (2, .inl ((n : Int), (n : Int)))], [], (W.set 59 (.inr (0, xtl 6 (xup (fun _ => -9) 4 (n : Int))))).set 60 (.inr (0, xtl 240 (xup (xfil (fun _ => 0) 0 160 i) (160 + i) 0))), 0, 0)) xf158_52 (sx_iinc rfl (Nat.le_of_ble_eq_true rfl) (by dsimp only; omega)) ?_
    refine hP.go (r := .inl (34, [(3, .inl ((i : Int) + 1, (i : Int) + 1)), (0, .inr (.inr (1, 57))), (1, .inl ((4 : Int), (4 : Int))), (2, .inl ((n : Int), (n : Int)))], [], (W.set 59 (.inr (0, xtl 6 (xup (fun _ => -9) 4 (n : Int))))).set 60 (.inr (0, xtl 240 (xup (xfil (fun _ => 0) 0 160 i) (160 + i) 0))), 0, 0)) xf158_55 rfl ?_
    have h := ih (i + 1) (by omega)
    rw [show ((i + 1 : Nat) : Int) = (i : Int) + 1 from rfl] at h
    rw [xfil_up]
    exact h
set_option maxRecDepth 100000 in
set_option maxHeartbeats 4000000 in
theorem xo0_4_k {W : XW} (h57 : W[57]? = some xc57) (hsz : W[59]? = some (.inr (0, xtl 6 (fun _ => -9)))) (har : W[60]? = some (.inr (0, xtl 240 (fun _ => 0)))) {n : Nat} (hn : n ≤ 40) : XMet l D vwCl (tysX tA) tA ex (xSTX ++ [xscA]) xSV xNW xNF xTs xm158 [.inr (.inr (1, 57)), .inl (4, 4), .inl ((n : Int), (n : Int))] W (some (.inl ((n : Int), (n : Int)))) ((W.set 59 (.inr (0, xtl 6 (xup (fun _ => -9) 4 (n : Int))))).set 60 (.inr (0, xtl 240 (xfil (fun _ => 0) 0 160 40)))) := by
  have hl : 60 < W.length := (List.getElem?_eq_some_iff.mp har).1
  refine xmet_ofK x_good (x_tysX tA) (x_tysY tA) (x_tysC tA) x_ok (fun j N as w ro w' => xcf_met j N as w ro w') (j := 158) (w2 := (W.set 59 (.inr (0, xtl 6 (xup (fun _ => -9) 4 (n : Int))))).set 60 (.inr (0, xtl 240 (xfil (fun _ => 0) 0 160 40)))) (k2 := 0) (n2 := 0) rfl (Nat.le_of_ble_eq_true rfl) ⟨Nat.le_refl _, Nat.le_refl _⟩ (Or.inr rfl) (fun P hP hF => ?_)
  show P (.inl (0, [(0, .inr (.inr (1, 57))), (1, .inl ((4 : Int), (4 : Int))), (2, .inl ((n : Int), (n : Int)))], [], W, 0, 0))
  refine hP.go (r := .inl (1, [(0, .inr (.inr (1, 57))), (1, .inl ((4 : Int), (4 : Int))), (2, .inl ((n : Int), (n : Int)))], [.inl ((4 : Int), (4 : Int))], W, 0, 0)) xf158_0 rfl ?_
  refine hP.go (r := .inl (4, [(0, .inr (.inr (1, 57))), (1, .inl ((4 : Int), (4 : Int))), (2, .inl ((n : Int), (n : Int)))], [.inl ((1 : Int), (1 : Int))], W, 0, 0)) xf158_1 (sx_calls (N := xm159) (ro := some (.inl ((1 : Int), (1 : Int)))) (w' := W) (k := 0) (n := 0) (by decide) rfl (Nat.le_of_ble_eq_true rfl) (Nat.le_of_ble_eq_true rfl) (Nat.le_of_ble_eq_true rfl) (Nat.le_of_ble_eq_true rfl) (Nat.le_of_ble_eq_true rfl) (Nat.le_of_ble_eq_true rfl) (xo0_4_i)) ?_
  refine hP.go (r := .inl (7, [(0, .inr (.inr (1, 57))), (1, .inl ((4 : Int), (4 : Int))), (2, .inl ((n : Int), (n : Int)))], [], W, 0, 0)) xf158_4 (sx_if (o := false) rfl) ?_
  refine hP.go (r := .inl (8, [(0, .inr (.inr (1, 57))), (1, .inl ((4 : Int), (4 : Int))), (2, .inl ((n : Int), (n : Int)))], [.inl ((n : Int), (n : Int))], W, 0, 0)) xf158_7 rfl ?_
  refine hP.go (r := .inl (10, [(0, .inr (.inr (1, 57))), (1, .inl ((4 : Int), (4 : Int))), (2, .inl ((n : Int), (n : Int)))], [.inl ((40 : Int), (40 : Int)), .inl ((n : Int), (n : Int))], W, 0, 0)) xf158_8 rfl ?_
  refine hP.go (r := .inl (15, [(0, .inr (.inr (1, 57))), (1, .inl ((4 : Int), (4 : Int))), (2, .inl ((n : Int), (n : Int)))], [], W, 0, 0)) xf158_10 (sx_icmp (o := true) (xcle_of.trans (by simp <;> omega))) ?_
  refine hP.go (r := .inl (16, [(0, .inr (.inr (1, 57))), (1, .inl ((4 : Int), (4 : Int))), (2, .inl ((n : Int), (n : Int)))], [.inl ((n : Int), (n : Int))], W, 0, 0)) xf158_15 rfl ?_
  refine hP.go (r := .inl (25, [(0, .inr (.inr (1, 57))), (1, .inl ((4 : Int), (4 : Int))), (2, .inl ((n : Int), (n : Int)))], [], W, 0, 0)) xf158_16 (sx_if (o := true) (xge_of.trans (by simp <;> omega))) ?_
  refine hP.go (r := .inl (26, [(0, .inr (.inr (1, 57))), (1, .inl ((4 : Int), (4 : Int))), (2, .inl ((n : Int), (n : Int)))], [.inr (.inr (1, 57))], W, 0, 0)) xf158_25 rfl ?_
  refine hP.go (r := .inl (29, [(0, .inr (.inr (1, 57))), (1, .inl ((4 : Int), (4 : Int))), (2, .inl ((n : Int), (n : Int)))], [.inr (.inr (1, 59))], W, 0, 0)) xf158_26 (sx_get h57 rfl) ?_
  refine hP.go (r := .inl (30, [(0, .inr (.inr (1, 57))), (1, .inl ((4 : Int), (4 : Int))), (2, .inl ((n : Int), (n : Int)))], [.inl ((4 : Int), (4 : Int)), .inr (.inr (1, 59))], W, 0, 0)) xf158_29 rfl ?_
  refine hP.go (r := .inl (31, [(0, .inr (.inr (1, 57))), (1, .inl ((4 : Int), (4 : Int))), (2, .inl ((n : Int), (n : Int)))], [.inl ((n : Int), (n : Int)), .inl ((4 : Int), (4 : Int)), .inr (.inr (1, 59))], W, 0, 0)) xf158_30 rfl ?_
  refine hP.go (r := .inl (32, [(0, .inr (.inr (1, 57))), (1, .inl ((4 : Int), (4 : Int))), (2, .inl ((n : Int), (n : Int)))], [], (W.set 59 (.inr (0, xtl 6 (xup (fun _ => -9) 4 (n : Int))))), 0, 0)) xf158_31 (sx_iast hsz (xtl_writez (c := 4) rfl (by decide))) ?_
  refine hP.go (r := .inl (33, [(0, .inr (.inr (1, 57))), (1, .inl ((4 : Int), (4 : Int))), (2, .inl ((n : Int), (n : Int)))], [.inl ((0 : Int), (0 : Int))], (W.set 59 (.inr (0, xtl 6 (xup (fun _ => -9) 4 (n : Int))))), 0, 0)) xf158_32 rfl ?_
  refine hP.go (r := .inl (34, [(3, .inl ((0 : Int), (0 : Int))), (0, .inr (.inr (1, 57))), (1, .inl ((4 : Int), (4 : Int))), (2, .inl ((n : Int), (n : Int)))], [], (W.set 59 (.inr (0, xtl 6 (xup (fun _ => -9) 4 (n : Int))))), 0, 0)) xf158_33 rfl ?_
  have h := xo0_4_l hP h57 hl hn hF 40 0 (Nat.zero_add _)
  rw [xfil_0] at h
  have e : (W.set 59 (.inr (0, xtl 6 (xup (fun _ => -9) 4 (n : Int))))).set 60 (.inr (0, xtl 240 (fun _ => 0))) = (W.set 59 (.inr (0, xtl 6 (xup (fun _ => -9) 4 (n : Int))))) := by
    have e1 : (W.set 59 (.inr (0, xtl 6 (xup (fun _ => -9) 4 (n : Int)))))[60]? = some (.inr (0, xtl 240 (fun _ => 0))) := xset_get (by decide) har
    obtain ⟨h1, e2⟩ := List.getElem?_eq_some_iff.mp e1
    rw [← e2]
    exact List.set_getElem_self h1
  rw [e] at h
  exact h
end XRW
def xo0_5_s : XW := [.inl (9, [.inr (.inr (1, 1)), .inr (.inr (1, 2)), .inr (.inr (1, 3)), .inr (.inr (1, 11)), .inr (.inr (1, 12)), .inr (.inr (1, 13)), .inr (.inr (1, 14)), .inr (.inr (1, 16)), .inr (.inr (1, 19)), .inr (.inr (1, 24)), xi 0, xi 0, xi 0, xi 1, xi 0, xi 0, .inr (.inl (some 0)), .inr (.inl (some 0)), .inr (.inl (some 1))]), .inr (3, [.inr (.inr (1, 25)), .inr (.inr (1, 27)), .inr (.inr (1, 29)), .inr (.inr (1, 31)), .inr (.inr (1, 33)), .inr (.inr (1, 35))])]
theorem xo0_5_m : xmrg xo0_5_s xw0 = xw0 := @of_decide_eq_true _ (xd5 _ _) (show @decide _ (xd5 (xmrg xo0_5_s xw0) xw0) = true by decide +kernel)
theorem xo0_5_a : xcf 20 xscA 9 [.inr (.inr (1, 0)), .inl (5, 5)] xw0 = some (some (.inr (.inr (1, 35))), xw0) := by
  have h := xcf_mrg xw0 (N := xm9) rfl rfl (@of_decide_eq_true _ (xd11 _ _) (show @decide _ (xd11 (xcf 20 xscA 9 [.inr (.inr (1, 0)), .inl (5, 5)] xo0_5_s) (some (some (.inr (.inr (1, 35))), xo0_5_s))) = true by decide +kernel))
  rw [xo0_5_m] at h
  exact h
theorem xo0_5_q : xw0[35]? = some (.inl (4, [.inr (.inr (1, 35 + 1)), .inl (-1, -1)])) := rfl
theorem xo0_5_p : xw0[35 + 1]? = some (.inr (0, xtl 40 (fun _ => 0))) := @of_decide_eq_true _ (xd10 _ _) (show @decide _ (xd10 (xw0[35 + 1]?) (some (.inr (0, xtl 40 (fun _ => 0))))) = true by decide +kernel)
abbrev xo0_5_w (n : Nat) : XW := (xw0.set 35 (.inl (4, [.inr (.inr (1, 35 + 1)), .inl ((n : Int), (n : Int))]))).set (35 + 1) (.inr (0, xtl 40 (xfil (fun _ => 0) 0 0 n)))
section XRW
variable {l : Launch} {D : va_G} {tA : Nat → ClassId} {ex : List Nat}
set_option maxRecDepth 100000 in
set_option maxHeartbeats 4000000 in
theorem xo0_5_c {n : Nat} (hn : n ≤ 40) : XMet l D vwCl (tysX tA) tA ex (xSTX ++ [xscA]) xSV xNW xNF xTs xm8 [.inr (.inr (1, 0)), .inl (5, 5), .inl ((n : Int), (n : Int))] xw0 (some (.inl ((n : Int), (n : Int)))) (xo0_5_w n) := by
  refine xmet_ofK x_good (x_tysX tA) (x_tysY tA) (x_tysC tA) x_ok (fun j N as w ro w' => xcf_met j N as w ro w') (j := 8) (w2 := xo0_5_w n) (k2 := 0) (n2 := 0) rfl (Nat.le_of_ble_eq_true rfl) ⟨Nat.le_refl _, Nat.le_refl _⟩ (Or.inr rfl) (fun P hP hF => ?_)
  show P (.inl (0, [(0, .inr (.inr (1, 0))), (1, .inl ((5 : Int), (5 : Int))), (2, .inl ((n : Int), (n : Int)))], [], xw0, 0, 0))
  refine hP.go (r := .inl (1, [(0, .inr (.inr (1, 0))), (1, .inl ((5 : Int), (5 : Int))), (2, .inl ((n : Int), (n : Int)))], [.inr (.inr (1, 0))], xw0, 0, 0)) xf8_0 rfl ?_
  refine hP.go (r := .inl (2, [(0, .inr (.inr (1, 0))), (1, .inl ((5 : Int), (5 : Int))), (2, .inl ((n : Int), (n : Int)))], [.inl ((5 : Int), (5 : Int)), .inr (.inr (1, 0))], xw0, 0, 0)) xf8_1 rfl ?_
  refine hP.go (r := .inl (5, [(0, .inr (.inr (1, 0))), (1, .inl ((5 : Int), (5 : Int))), (2, .inl ((n : Int), (n : Int)))], [.inr (.inr (1, 35))], xw0, 0, 0)) xf8_2 (sx_callv (N := xm9) (ro := some (.inr (.inr (1, 35)))) (w' := xw0) (k := 0) (n := 0) rfl (Nat.le_of_ble_eq_true rfl) (Nat.le_of_ble_eq_true rfl) (Nat.le_of_ble_eq_true rfl) (Nat.le_of_ble_eq_true rfl) (Nat.le_of_ble_eq_true rfl) (Nat.le_of_ble_eq_true rfl) (xrecv_of xw0_0) (xo0_5_a)) ?_
  refine hP.go (r := .inl (6, [(3, .inr (.inr (1, 35))), (0, .inr (.inr (1, 0))), (1, .inl ((5 : Int), (5 : Int))), (2, .inl ((n : Int), (n : Int)))], [], xw0, 0, 0)) xf8_5 rfl ?_
  refine hP.go (r := .inl (7, [(3, .inr (.inr (1, 35))), (0, .inr (.inr (1, 0))), (1, .inl ((5 : Int), (5 : Int))), (2, .inl ((n : Int), (n : Int)))], [.inr (.inr (1, 35))], xw0, 0, 0)) xf8_6 rfl ?_
  refine hP.go (r := .inl (10, [(3, .inr (.inr (1, 35))), (0, .inr (.inr (1, 0))), (1, .inl ((5 : Int), (5 : Int))), (2, .inl ((n : Int), (n : Int)))], [], xw0, 0, 0)) xf8_7 rfl ?_
  refine hP.go (r := .inl (11, [(3, .inr (.inr (1, 35))), (0, .inr (.inr (1, 0))), (1, .inl ((5 : Int), (5 : Int))), (2, .inl ((n : Int), (n : Int)))], [.inl ((n : Int), (n : Int))], xw0, 0, 0)) xf8_10 rfl ?_
  refine hP.go (r := .inl (13, [(3, .inr (.inr (1, 35))), (0, .inr (.inr (1, 0))), (1, .inl ((5 : Int), (5 : Int))), (2, .inl ((n : Int), (n : Int)))], [.inl ((40 : Int), (40 : Int)), .inl ((n : Int), (n : Int))], xw0, 0, 0)) xf8_11 rfl ?_
  refine hP.go (r := .inl (18, [(3, .inr (.inr (1, 35))), (0, .inr (.inr (1, 0))), (1, .inl ((5 : Int), (5 : Int))), (2, .inl ((n : Int), (n : Int)))], [], xw0, 0, 0)) xf8_13 (sx_icmp (o := true) (xcle_of.trans (by simp <;> omega))) ?_
  refine hP.go (r := .inl (19, [(3, .inr (.inr (1, 35))), (0, .inr (.inr (1, 0))), (1, .inl ((5 : Int), (5 : Int))), (2, .inl ((n : Int), (n : Int)))], [.inl ((n : Int), (n : Int))], xw0, 0, 0)) xf8_18 rfl ?_
  refine hP.go (r := .inl (28, [(3, .inr (.inr (1, 35))), (0, .inr (.inr (1, 0))), (1, .inl ((5 : Int), (5 : Int))), (2, .inl ((n : Int), (n : Int)))], [], xw0, 0, 0)) xf8_19 (sx_if (o := true) (xge_of.trans (by simp <;> omega))) ?_
  refine hP.go (r := .inl (29, [(3, .inr (.inr (1, 35))), (0, .inr (.inr (1, 0))), (1, .inl ((5 : Int), (5 : Int))), (2, .inl ((n : Int), (n : Int)))], [.inr (.inr (1, 35))], xw0, 0, 0)) xf8_28 rfl ?_
  refine hP.go (r := .inl (30, [(3, .inr (.inr (1, 35))), (0, .inr (.inr (1, 0))), (1, .inl ((5 : Int), (5 : Int))), (2, .inl ((n : Int), (n : Int)))], [.inl ((n : Int), (n : Int)), .inr (.inr (1, 35))], xw0, 0, 0)) xf8_29 rfl ?_
  refine hP.go (r := .inl (31, [(3, .inr (.inr (1, 35))), (0, .inr (.inr (1, 0))), (1, .inl ((5 : Int), (5 : Int))), (2, .inl ((n : Int), (n : Int)))], [.inl ((0 : Int), (0 : Int)), .inl ((n : Int), (n : Int)), .inr (.inr (1, 35))], xw0, 0, 0)) xf8_30 rfl ?_
  refine hP.2.2.1 _ (34, [(3, .inr (.inr (1, 35))), (0, .inr (.inr (1, 0))), (1, .inl ((5 : Int), (5 : Int))), (2, .inl ((n : Int), (n : Int)))], [], xo0_5_w n, 0, 0) ⟨.invokevirtual 86, 11, 3, 0, xm11, none, xo0_5_w n, xf8_31, rfl, xba_met (q := 35) xo0_5_q xo0_5_p hn, fun cf hc => sx_callv (N := xm11) rfl (Nat.le_of_ble_eq_true rfl) (Nat.le_of_ble_eq_true rfl) (Nat.le_of_ble_eq_true rfl) (Nat.le_of_ble_eq_true rfl) (Nat.le_of_ble_eq_true rfl) (Nat.le_of_ble_eq_true rfl) (xrecv_of xo0_5_q) hc⟩ ?_
  refine hP.go (r := .inl (35, [(3, .inr (.inr (1, 35))), (0, .inr (.inr (1, 0))), (1, .inl ((5 : Int), (5 : Int))), (2, .inl ((n : Int), (n : Int)))], [.inl ((n : Int), (n : Int))], xo0_5_w n, 0, 0)) xf8_34 rfl ?_
  exact hP.go (r := .inr (some (.inl ((n : Int), (n : Int))), xo0_5_w n, 0, 0)) xf8_35 rfl hF
theorem xo0_5_i {W : XW} : xcf 20 xscA 159 [.inl (5, 5)] W = some (some (.inl (1, 1)), W) := xcf_mrg W (w := []) (w' := []) (N := xm159) rfl rfl (@of_decide_eq_true _ (xd11 _ _) (show @decide _ (xd11 (xcf 20 xscA 159 [.inl (5, 5)] []) (some (some (.inl (1, 1)), []))) = true by decide +kernel))
set_option maxRecDepth 100000 in
set_option maxHeartbeats 4000000 in
theorem xo0_5_l {P : XR → Prop} (hP : XCl (xSt xscA xm158) (xJm l D tA ex xscA xm158) P) {W : XW} (h57 : W[57]? = some xc57) (hl : 60 < W.length) {n : Nat} (hn : n ≤ 40) (hF : P (.inr (some (.inl ((n : Int), (n : Int))), (W.set 59 (.inr (0, xtl 6 (xup (fun _ => -9) 5 (n : Int))))).set 60 (.inr (0, xtl 240 (xfil (fun _ => 0) 0 200 40))), 0, 0))) : ∀ (d i : Nat), i + d = 40 → P (.inl (34, [(3, .inl ((i : Int), (i : Int))), (0, .inr (.inr (1, 57))), (1, .inl ((5 : Int), (5 : Int))), (2, .inl ((n : Int), (n : Int)))], [], (W.set 59 (.inr (0, xtl 6 (xup (fun _ => -9) 5 (n : Int))))).set 60 (.inr (0, xtl 240 (xfil (fun _ => 0) 0 200 i))), 0, 0)) := fun d => by
  induction d with
  | zero =>
    intro i hi
    refine hP.go (r := .inl (35, [(3, .inl ((i : Int), (i : Int))), (0, .inr (.inr (1, 57))), (1, .inl ((5 : Int), (5 : Int))), (2, .inl ((n : Int), (n : Int)))], [.inl ((i : Int), (i : Int))], (W.set 59 (.inr (0, xtl 6 (xup (fun _ => -9) 5 (n : Int))))).set 60 (.inr (0, xtl 240 (xfil (fun _ => 0) 0 200 i))), 0, 0)) xf158_34 rfl ?_
    refine hP.go (r := .inl (37, [(3, .inl ((i : Int), (i : Int))), (0, .inr (.inr (1, 57))), (1, .inl ((5 : Int), (5 : Int))), (2, .inl ((n : Int), (n : Int)))], [.inl ((40 : Int), (40 : Int)), .inl ((i : Int), (i : Int))], (W.set 59 (.inr (0, xtl 6 (xup (fun _ => -9) 5 (n : Int))))).set 60 (.inr (0, xtl 240 (xfil (fun _ => 0) 0 200 i))), 0, 0)) xf158_35 rfl ?_
    refine hP.go (r := .inl (58, [(3, .inl ((i : Int), (i : Int))), (0, .inr (.inr (1, 57))), (1, .inl ((5 : Int), (5 : Int))), (2, .inl ((n : Int), (n : Int)))], [], (W.set 59 (.inr (0, xtl 6 (xup (fun _ => -9) 5 (n : Int))))).set 60 (.inr (0, xtl 240 (xfil (fun _ => 0) 0 200 i))), 0, 0)) xf158_37 (sx_icmp (o := true) (xge_of.trans (by simp <;> omega))) ?_
    refine hP.go (r := .inl (59, [(3, .inl ((i : Int), (i : Int))), (0, .inr (.inr (1, 57))), (1, .inl ((5 : Int), (5 : Int))), (2, .inl ((n : Int), (n : Int)))], [.inl ((n : Int), (n : Int))], (W.set 59 (.inr (0, xtl 6 (xup (fun _ => -9) 5 (n : Int))))).set 60 (.inr (0, xtl 240 (xfil (fun _ => 0) 0 200 i))), 0, 0)) xf158_58 rfl ?_
    have e : i = 40 := by omega
    subst e
    exact hP.go (r := .inr (some (.inl ((n : Int), (n : Int))), (W.set 59 (.inr (0, xtl 6 (xup (fun _ => -9) 5 (n : Int))))).set 60 (.inr (0, xtl 240 (xfil (fun _ => 0) 0 200 40))), 0, 0)) xf158_59 rfl hF
  | succ d ih =>
    intro i hi
    have g57 : ((W.set 59 (.inr (0, xtl 6 (xup (fun _ => -9) 5 (n : Int))))).set 60 (.inr (0, xtl 240 (xfil (fun _ => 0) 0 200 i))))[57]? = some xc57 := xset_get (by decide) (xset_get (by decide) h57)
    have g2 : ((W.set 59 (.inr (0, xtl 6 (xup (fun _ => -9) 5 (n : Int))))).set 60 (.inr (0, xtl 240 (xfil (fun _ => 0) 0 200 i))))[60]? = some (.inr (0, xtl 240 (xfil (fun _ => 0) 0 200 i))) := xset_at (by rw [List.length_set]; exact hl)
    refine hP.go (r := .inl (35, [(3, .inl ((i : Int), (i : Int))), (0, .inr (.inr (1, 57))), (1, .inl ((5 : Int), (5 : Int))), (2, .inl ((n : Int), (n : Int)))], [.inl ((i : Int), (i : Int))], (W.set 59 (.inr (0, xtl 6 (xup (fun _ => -9) 5 (n : Int))))).set 60 (.inr (0, xtl 240 (xfil (fun _ => 0) 0 200 i))), 0, 0)) xf158_34 rfl ?_
    refine hP.go (r := .inl (37, [(3, .inl ((i : Int), (i : Int))), (0, .inr (.inr (1, 57))), (1, .inl ((5 : Int), (5 : Int))), (2, .inl ((n : Int), (n : Int)))], [.inl ((40 : Int), (40 : Int)), .inl ((i : Int), (i : Int))], (W.set 59 (.inr (0, xtl 6 (xup (fun _ => -9) 5 (n : Int))))).set 60 (.inr (0, xtl 240 (xfil (fun _ => 0) 0 200 i))), 0, 0)) xf158_35 rfl ?_
    refine hP.go (r := .inl (40, [(3, .inl ((i : Int), (i : Int))), (0, .inr (.inr (1, 57))), (1, .inl ((5 : Int), (5 : Int))), (2, .inl ((n : Int), (n : Int)))], [], (W.set 59 (.inr (0, xtl 6 (xup (fun _ => -9) 5 (n : Int))))).set 60 (.inr (0, xtl 240 (xfil (fun _ => 0) 0 200 i))), 0, 0)) xf158_37 (sx_icmp (o := false) (xge_of.trans (by simp <;> omega))) ?_
    refine hP.go (r := .inl (41, [(3, .inl ((i : Int), (i : Int))), (0, .inr (.inr (1, 57))), (1, .inl ((5 : Int), (5 : Int))), (2, .inl ((n : Int), (n : Int)))], [.inr (.inr (1, 57))], (W.set 59 (.inr (0, xtl 6 (xup (fun _ => -9) 5 (n : Int))))).set 60 (.inr (0, xtl 240 (xfil (fun _ => 0) 0 200 i))), 0, 0)) xf158_40 rfl ?_
    refine hP.go (r := .inl (44, [(3, .inl ((i : Int), (i : Int))), (0, .inr (.inr (1, 57))), (1, .inl ((5 : Int), (5 : Int))), (2, .inl ((n : Int), (n : Int)))], [.inr (.inr (1, 60))], (W.set 59 (.inr (0, xtl 6 (xup (fun _ => -9) 5 (n : Int))))).set 60 (.inr (0, xtl 240 (xfil (fun _ => 0) 0 200 i))), 0, 0)) xf158_41 (sx_get g57 rfl) ?_
    refine hP.go (r := .inl (46, [(3, .inl ((i : Int), (i : Int))), (0, .inr (.inr (1, 57))), (1, .inl ((5 : Int), (5 : Int))), (2, .inl ((n : Int), (n : Int)))], [.inl ((40 : Int), (40 : Int)), .inr (.inr (1, 60))], (W.set 59 (.inr (0, xtl 6 (xup (fun _ => -9) 5 (n : Int))))).set 60 (.inr (0, xtl 240 (xfil (fun _ => 0) 0 200 i))), 0, 0)) xf158_44 rfl ?_
    refine hP.go (r := .inl (47, [(3, .inl ((i : Int), (i : Int))), (0, .inr (.inr (1, 57))), (1, .inl ((5 : Int), (5 : Int))), (2, .inl ((n : Int), (n : Int)))], [.inl ((5 : Int), (5 : Int)), .inl ((40 : Int), (40 : Int)), .inr (.inr (1, 60))], (W.set 59 (.inr (0, xtl 6 (xup (fun _ => -9) 5 (n : Int))))).set 60 (.inr (0, xtl 240 (xfil (fun _ => 0) 0 200 i))), 0, 0)) xf158_46 rfl ?_
    refine hP.go (r := .inl (48, [(3, .inl ((i : Int), (i : Int))), (0, .inr (.inr (1, 57))), (1, .inl ((5 : Int), (5 : Int))), (2, .inl ((n : Int), (n : Int)))], [.inl ((200 : Int), (200 : Int)), .inr (.inr (1, 60))], (W.set 59 (.inr (0, xtl 6 (xup (fun _ => -9) 5 (n : Int))))).set 60 (.inr (0, xtl 240 (xfil (fun _ => 0) 0 200 i))), 0, 0)) xf158_47 (sx_imul (by decide +kernel)) ?_
    refine hP.go (r := .inl (49, [(3, .inl ((i : Int), (i : Int))), (0, .inr (.inr (1, 57))), (1, .inl ((5 : Int), (5 : Int))), (2, .inl ((n : Int), (n : Int)))], [.inl ((i : Int), (i : Int)), .inl ((200 : Int), (200 : Int)), .inr (.inr (1, 60))], (W.set 59 (.inr (0, xtl 6 (xup (fun _ => -9) 5 (n : Int))))).set 60 (.inr (0, xtl 240 (xfil (fun _ => 0) 0 200 i))), 0, 0)) xf158_48 rfl ?_
    refine hP.go (r := .inl (50, [(3, .inl ((i : Int), (i : Int))), (0, .inr (.inr (1, 57))), (1, .inl ((5 : Int), (5 : Int))), (2, .inl ((n : Int), (n : Int)))], [.inl ((200 : Int) + (i : Int), (200 : Int) + (i : Int)), .inr (.inr (1, 60))], (W.set 59 (.inr (0, xtl 6 (xup (fun _ => -9) 5 (n : Int))))).set 60 (.inr (0, xtl 240 (xfil (fun _ => 0) 0 200 i))), 0, 0)) xf158_49 (sx_iadd (by omega)) ?_
    refine hP.go (r := .inl (51, [(3, .inl ((i : Int), (i : Int))), (0, .inr (.inr (1, 57))), (1, .inl ((5 : Int), (5 : Int))), (2, .inl ((n : Int), (n : Int)))], [.inl ((0 : Int), (0 : Int)), .inl ((200 : Int) + (i : Int), (200 : Int) + (i : Int)), .inr (.inr (1, 60))], (W.set 59 (.inr (0, xtl 6 (xup (fun _ => -9) 5 (n : Int))))).set 60 (.inr (0, xtl 240 (xfil (fun _ => 0) 0 200 i))), 0, 0)) xf158_50 rfl ?_
    refine hP.go (r := .inl (52, [(3, .inl ((i : Int), (i : Int))), (0, .inr (.inr (1, 57))), (1, .inl ((5 : Int), (5 : Int))), (2, .inl ((n : Int), (n : Int)))], [], (W.set 59 (.inr (0, xtl 6 (xup (fun _ => -9) 5 (n : Int))))).set 60 (.inr (0, xtl 240 (xup (xfil (fun _ => 0) 0 200 i) (200 + i) 0))), 0, 0)) xf158_51 ((sx_iast g2 (xtl_writez (c := 200 + i) (by omega) (by omega))).trans (by rw [List.set_set])) ?_
    refine hP.go (r := .inl (55, [(3, .inl ((i : Int) + 1, (i : Int) + 1)), (0, .inr (.inr (1, 57))), (1, .inl ((5 : Int), (5 : Int))), (2, .inl ((n : Int), (n : Int)))], [], (W.set 59 (.inr (0, xtl 6 (xup (fun _ => -9) 5 (n : Int))))).set 60 (.inr (0, xtl 240 (xup (xfil (fun _ => 0) 0 200 i) (200 + i) 0))), 0, 0)) xf158_52 (sx_iinc rfl (Nat.le_of_ble_eq_true rfl) (by dsimp only; omega)) ?_
    refine hP.go (r := .inl (34, [(3, .inl ((i : Int) + 1, (i : Int) + 1)), (0, .inr (.inr (1, 57))), (1, .inl ((5 : Int), (5 : Int))), (2, .inl ((n : Int), (n : Int)))], [], (W.set 59 (.inr (0, xtl 6 (xup (fun _ => -9) 5 (n : Int))))).set 60 (.inr (0, xtl 240 (xup (xfil (fun _ => 0) 0 200 i) (200 + i) 0))), 0, 0)) xf158_55 rfl ?_
    have h := ih (i + 1) (by omega)
    rw [show ((i + 1 : Nat) : Int) = (i : Int) + 1 from rfl] at h
    rw [xfil_up]
    exact h
set_option maxRecDepth 100000 in
set_option maxHeartbeats 4000000 in
theorem xo0_5_k {W : XW} (h57 : W[57]? = some xc57) (hsz : W[59]? = some (.inr (0, xtl 6 (fun _ => -9)))) (har : W[60]? = some (.inr (0, xtl 240 (fun _ => 0)))) {n : Nat} (hn : n ≤ 40) : XMet l D vwCl (tysX tA) tA ex (xSTX ++ [xscA]) xSV xNW xNF xTs xm158 [.inr (.inr (1, 57)), .inl (5, 5), .inl ((n : Int), (n : Int))] W (some (.inl ((n : Int), (n : Int)))) ((W.set 59 (.inr (0, xtl 6 (xup (fun _ => -9) 5 (n : Int))))).set 60 (.inr (0, xtl 240 (xfil (fun _ => 0) 0 200 40)))) := by
  have hl : 60 < W.length := (List.getElem?_eq_some_iff.mp har).1
  refine xmet_ofK x_good (x_tysX tA) (x_tysY tA) (x_tysC tA) x_ok (fun j N as w ro w' => xcf_met j N as w ro w') (j := 158) (w2 := (W.set 59 (.inr (0, xtl 6 (xup (fun _ => -9) 5 (n : Int))))).set 60 (.inr (0, xtl 240 (xfil (fun _ => 0) 0 200 40)))) (k2 := 0) (n2 := 0) rfl (Nat.le_of_ble_eq_true rfl) ⟨Nat.le_refl _, Nat.le_refl _⟩ (Or.inr rfl) (fun P hP hF => ?_)
  show P (.inl (0, [(0, .inr (.inr (1, 57))), (1, .inl ((5 : Int), (5 : Int))), (2, .inl ((n : Int), (n : Int)))], [], W, 0, 0))
  refine hP.go (r := .inl (1, [(0, .inr (.inr (1, 57))), (1, .inl ((5 : Int), (5 : Int))), (2, .inl ((n : Int), (n : Int)))], [.inl ((5 : Int), (5 : Int))], W, 0, 0)) xf158_0 rfl ?_
  refine hP.go (r := .inl (4, [(0, .inr (.inr (1, 57))), (1, .inl ((5 : Int), (5 : Int))), (2, .inl ((n : Int), (n : Int)))], [.inl ((1 : Int), (1 : Int))], W, 0, 0)) xf158_1 (sx_calls (N := xm159) (ro := some (.inl ((1 : Int), (1 : Int)))) (w' := W) (k := 0) (n := 0) (by decide) rfl (Nat.le_of_ble_eq_true rfl) (Nat.le_of_ble_eq_true rfl) (Nat.le_of_ble_eq_true rfl) (Nat.le_of_ble_eq_true rfl) (Nat.le_of_ble_eq_true rfl) (Nat.le_of_ble_eq_true rfl) (xo0_5_i)) ?_
  refine hP.go (r := .inl (7, [(0, .inr (.inr (1, 57))), (1, .inl ((5 : Int), (5 : Int))), (2, .inl ((n : Int), (n : Int)))], [], W, 0, 0)) xf158_4 (sx_if (o := false) rfl) ?_
  refine hP.go (r := .inl (8, [(0, .inr (.inr (1, 57))), (1, .inl ((5 : Int), (5 : Int))), (2, .inl ((n : Int), (n : Int)))], [.inl ((n : Int), (n : Int))], W, 0, 0)) xf158_7 rfl ?_
  refine hP.go (r := .inl (10, [(0, .inr (.inr (1, 57))), (1, .inl ((5 : Int), (5 : Int))), (2, .inl ((n : Int), (n : Int)))], [.inl ((40 : Int), (40 : Int)), .inl ((n : Int), (n : Int))], W, 0, 0)) xf158_8 rfl ?_
  refine hP.go (r := .inl (15, [(0, .inr (.inr (1, 57))), (1, .inl ((5 : Int), (5 : Int))), (2, .inl ((n : Int), (n : Int)))], [], W, 0, 0)) xf158_10 (sx_icmp (o := true) (xcle_of.trans (by simp <;> omega))) ?_
  refine hP.go (r := .inl (16, [(0, .inr (.inr (1, 57))), (1, .inl ((5 : Int), (5 : Int))), (2, .inl ((n : Int), (n : Int)))], [.inl ((n : Int), (n : Int))], W, 0, 0)) xf158_15 rfl ?_
  refine hP.go (r := .inl (25, [(0, .inr (.inr (1, 57))), (1, .inl ((5 : Int), (5 : Int))), (2, .inl ((n : Int), (n : Int)))], [], W, 0, 0)) xf158_16 (sx_if (o := true) (xge_of.trans (by simp <;> omega))) ?_
  refine hP.go (r := .inl (26, [(0, .inr (.inr (1, 57))), (1, .inl ((5 : Int), (5 : Int))), (2, .inl ((n : Int), (n : Int)))], [.inr (.inr (1, 57))], W, 0, 0)) xf158_25 rfl ?_
  refine hP.go (r := .inl (29, [(0, .inr (.inr (1, 57))), (1, .inl ((5 : Int), (5 : Int))), (2, .inl ((n : Int), (n : Int)))], [.inr (.inr (1, 59))], W, 0, 0)) xf158_26 (sx_get h57 rfl) ?_
  refine hP.go (r := .inl (30, [(0, .inr (.inr (1, 57))), (1, .inl ((5 : Int), (5 : Int))), (2, .inl ((n : Int), (n : Int)))], [.inl ((5 : Int), (5 : Int)), .inr (.inr (1, 59))], W, 0, 0)) xf158_29 rfl ?_
  refine hP.go (r := .inl (31, [(0, .inr (.inr (1, 57))), (1, .inl ((5 : Int), (5 : Int))), (2, .inl ((n : Int), (n : Int)))], [.inl ((n : Int), (n : Int)), .inl ((5 : Int), (5 : Int)), .inr (.inr (1, 59))], W, 0, 0)) xf158_30 rfl ?_
  refine hP.go (r := .inl (32, [(0, .inr (.inr (1, 57))), (1, .inl ((5 : Int), (5 : Int))), (2, .inl ((n : Int), (n : Int)))], [], (W.set 59 (.inr (0, xtl 6 (xup (fun _ => -9) 5 (n : Int))))), 0, 0)) xf158_31 (sx_iast hsz (xtl_writez (c := 5) rfl (by decide))) ?_
  refine hP.go (r := .inl (33, [(0, .inr (.inr (1, 57))), (1, .inl ((5 : Int), (5 : Int))), (2, .inl ((n : Int), (n : Int)))], [.inl ((0 : Int), (0 : Int))], (W.set 59 (.inr (0, xtl 6 (xup (fun _ => -9) 5 (n : Int))))), 0, 0)) xf158_32 rfl ?_
  refine hP.go (r := .inl (34, [(3, .inl ((0 : Int), (0 : Int))), (0, .inr (.inr (1, 57))), (1, .inl ((5 : Int), (5 : Int))), (2, .inl ((n : Int), (n : Int)))], [], (W.set 59 (.inr (0, xtl 6 (xup (fun _ => -9) 5 (n : Int))))), 0, 0)) xf158_33 rfl ?_
  have h := xo0_5_l hP h57 hl hn hF 40 0 (Nat.zero_add _)
  rw [xfil_0] at h
  have e : (W.set 59 (.inr (0, xtl 6 (xup (fun _ => -9) 5 (n : Int))))).set 60 (.inr (0, xtl 240 (fun _ => 0))) = (W.set 59 (.inr (0, xtl 6 (xup (fun _ => -9) 5 (n : Int))))) := by
    have e1 : (W.set 59 (.inr (0, xtl 6 (xup (fun _ => -9) 5 (n : Int)))))[60]? = some (.inr (0, xtl 240 (fun _ => 0))) := xset_get (by decide) har
    obtain ⟨h1, e2⟩ := List.getElem?_eq_some_iff.mp e1
    rw [← e2]
    exact List.set_getElem_self h1
  rw [e] at h
  exact h
end XRW
def xq0 : List ((Int × Int) × (Int × Int)) := [((-2147483648, -1), (-2147483648, 40)), ((-2147483648, -1), (41, 2147483647)), ((6, 2147483647), (-2147483648, 40)), ((6, 2147483647), (41, 2147483647)), ((0, 0), (-2147483648, -1)), ((0, 0), (41, 2147483647)), ((1, 1), (-2147483648, -1)), ((1, 1), (41, 2147483647)), ((2, 2), (-2147483648, -1)), ((2, 2), (41, 2147483647)), ((3, 3), (-2147483648, -1)), ((3, 3), (41, 2147483647)), ((4, 4), (-2147483648, -1)), ((4, 4), (41, 2147483647)), ((5, 5), (-2147483648, -1)), ((5, 5), (41, 2147483647))]
theorem xq0_ok : ∀ q ∈ xq0, xpair2 8 158 q.1 q.2 = true := List.all_eq_true.mp (show xq0.all (fun q => xpair2 8 158 q.1 q.2) = true by decide +kernel)
section XLW
variable {p : Program} {l : Launch} {e : Env} {s : State} {m : MethodId} {below : List Frame} {meth : Method} {c : Code} {b L : Nat} {xs : Nat → Int32} {D : va_G} {tA : Nat → ClassId} {ex : List Nat}
theorem xlaw_0b (C0 : lw_At p s m meth c b L xs) (hEn : ∀ sc : List XV, sc.length = 6 → (∀ (i : Nat) (x : XV), sc[i]? = some x → xv_in [] [] x (.int (xs i))) → XEnv D vwCl (tysX tA) ex (xSTX ++ [sc]) xSV xNW xNF (fun q : Nat => s.heap.size ≤ q) s) {q : (Int × Int) × (Int × Int)} (hq : q ∈ xq0) (h1 : q.1.1 ≤ (xs 1).toInt ∧ (xs 1).toInt ≤ q.1.2) (h2 : q.2.1 ≤ (xs 2).toInt ∧ (xs 2).toInt ≤ q.2.2) : XLS p l e s m b below meth c D tA ex (.inl (xS 0)) := by
  obtain ⟨z, w1, w2, e1, e2, e3⟩ := xpair2_ok (xq0_ok q hq)
  exact xlw_0 C0 hEn h1 h2 (xcf_met _ _ _ _ _ _ rfl e1) e2 (xcf_met _ _ _ _ _ _ rfl e3)
theorem xlaw_0 (C0 : lw_At p s m meth c b L xs) (hEn : ∀ sc : List XV, sc.length = 6 → (∀ (i : Nat) (x : XV), sc[i]? = some x → xv_in [] [] x (.int (xs i))) → XEnv D vwCl (tysX tA) ex (xSTX ++ [sc]) xSV xNW xNF (fun q : Nat => s.heap.size ≤ q) s) : XLS p l e s m b below meth c D tA ex (.inl (xS 0)) := by
  have r1 := x_rng (xs 1)
  have r2 := x_rng (xs 2)
  by_cases h1 : (xs 1).toInt < 0
  · by_cases h2 : (xs 2).toInt ≤ 40
    · exact xlaw_0b C0 hEn (q := ((-2147483648, -1), (-2147483648, 40))) (List.mem_of_getElem? (i := 0) rfl) ⟨r1.1, by show _ ≤ (-1 : Int); omega⟩ ⟨r2.1, h2⟩
    · exact xlaw_0b C0 hEn (q := ((-2147483648, -1), (41, 2147483647))) (List.mem_of_getElem? (i := 1) rfl) ⟨r1.1, by show _ ≤ (-1 : Int); omega⟩ ⟨by show (41 : Int) ≤ _; omega, r2.2⟩
  by_cases h3 : 6 ≤ (xs 1).toInt
  · by_cases h2 : (xs 2).toInt ≤ 40
    · exact xlaw_0b C0 hEn (q := ((6, 2147483647), (-2147483648, 40))) (List.mem_of_getElem? (i := 2) rfl) ⟨h3, r1.2⟩ ⟨r2.1, h2⟩
    · exact xlaw_0b C0 hEn (q := ((6, 2147483647), (41, 2147483647))) (List.mem_of_getElem? (i := 3) rfl) ⟨h3, r1.2⟩ ⟨by show (41 : Int) ≤ _; omega, r2.2⟩
  obtain ⟨n, en⟩ : ∃ n : Int, (xs 2).toInt = n := ⟨_, rfl⟩
  rcases (show (xs 1).toInt = 0 ∨ (xs 1).toInt = 1 ∨ (xs 1).toInt = 2 ∨ (xs 1).toInt = 3 ∨ (xs 1).toInt = 4 ∨ (xs 1).toInt = 5 by omega) with hr | hr | hr | hr | hr | hr
  · have i1 : ((0 : Int), (0 : Int)).1 ≤ (xs 1).toInt ∧ (xs 1).toInt ≤ ((0 : Int), (0 : Int)).2 := ⟨by show (0 : Int) ≤ _; omega, by show _ ≤ (0 : Int); omega⟩
    by_cases h4 : (xs 2).toInt < 0
    · exact xlaw_0b C0 hEn (q := ((0, 0), (-2147483648, -1))) (List.mem_of_getElem? (i := 4) rfl) i1 ⟨r2.1, by show _ ≤ (-1 : Int); omega⟩
    by_cases h5 : 41 ≤ (xs 2).toInt
    · exact xlaw_0b C0 hEn (q := ((0, 0), (41, 2147483647))) (List.mem_of_getElem? (i := 5) rfl) i1 ⟨h5, r2.2⟩
    obtain ⟨k, ek⟩ : ∃ k : Nat, (xs 2).toInt = (k : Int) := ⟨(xs 2).toInt.toNat, by omega⟩
    have i2 : ((k : Int), (k : Int)).1 ≤ (xs 2).toInt ∧ (xs 2).toInt ≤ ((k : Int), (k : Int)).2 := ⟨by show (k : Int) ≤ _; omega, by show _ ≤ (k : Int); omega⟩
    exact xlw_0 C0 hEn i1 i2 (xo0_0_c (by omega)) (xset_get (by decide) (xset_get (by decide) xw0_57)) (xo0_0_k (xset_get (by decide) (xset_get (by decide) xw0_57)) (xset_get (by decide) (xset_get (by decide) xo0_sz)) (xset_get (by decide) (xset_get (by decide) xo0_ar)) (by omega))
  · have i1 : ((1 : Int), (1 : Int)).1 ≤ (xs 1).toInt ∧ (xs 1).toInt ≤ ((1 : Int), (1 : Int)).2 := ⟨by show (1 : Int) ≤ _; omega, by show _ ≤ (1 : Int); omega⟩
    by_cases h4 : (xs 2).toInt < 0
    · exact xlaw_0b C0 hEn (q := ((1, 1), (-2147483648, -1))) (List.mem_of_getElem? (i := 6) rfl) i1 ⟨r2.1, by show _ ≤ (-1 : Int); omega⟩
    by_cases h5 : 41 ≤ (xs 2).toInt
    · exact xlaw_0b C0 hEn (q := ((1, 1), (41, 2147483647))) (List.mem_of_getElem? (i := 7) rfl) i1 ⟨h5, r2.2⟩
    obtain ⟨k, ek⟩ : ∃ k : Nat, (xs 2).toInt = (k : Int) := ⟨(xs 2).toInt.toNat, by omega⟩
    have i2 : ((k : Int), (k : Int)).1 ≤ (xs 2).toInt ∧ (xs 2).toInt ≤ ((k : Int), (k : Int)).2 := ⟨by show (k : Int) ≤ _; omega, by show _ ≤ (k : Int); omega⟩
    exact xlw_0 C0 hEn i1 i2 (xo0_1_c (by omega)) (xset_get (by decide) (xset_get (by decide) xw0_57)) (xo0_1_k (xset_get (by decide) (xset_get (by decide) xw0_57)) (xset_get (by decide) (xset_get (by decide) xo0_sz)) (xset_get (by decide) (xset_get (by decide) xo0_ar)) (by omega))
  · have i1 : ((2 : Int), (2 : Int)).1 ≤ (xs 1).toInt ∧ (xs 1).toInt ≤ ((2 : Int), (2 : Int)).2 := ⟨by show (2 : Int) ≤ _; omega, by show _ ≤ (2 : Int); omega⟩
    by_cases h4 : (xs 2).toInt < 0
    · exact xlaw_0b C0 hEn (q := ((2, 2), (-2147483648, -1))) (List.mem_of_getElem? (i := 8) rfl) i1 ⟨r2.1, by show _ ≤ (-1 : Int); omega⟩
    by_cases h5 : 41 ≤ (xs 2).toInt
    · exact xlaw_0b C0 hEn (q := ((2, 2), (41, 2147483647))) (List.mem_of_getElem? (i := 9) rfl) i1 ⟨h5, r2.2⟩
    obtain ⟨k, ek⟩ : ∃ k : Nat, (xs 2).toInt = (k : Int) := ⟨(xs 2).toInt.toNat, by omega⟩
    have i2 : ((k : Int), (k : Int)).1 ≤ (xs 2).toInt ∧ (xs 2).toInt ≤ ((k : Int), (k : Int)).2 := ⟨by show (k : Int) ≤ _; omega, by show _ ≤ (k : Int); omega⟩
    exact xlw_0 C0 hEn i1 i2 (xo0_2_c (by omega)) (xset_get (by decide) (xset_get (by decide) xw0_57)) (xo0_2_k (xset_get (by decide) (xset_get (by decide) xw0_57)) (xset_get (by decide) (xset_get (by decide) xo0_sz)) (xset_get (by decide) (xset_get (by decide) xo0_ar)) (by omega))
  · have i1 : ((3 : Int), (3 : Int)).1 ≤ (xs 1).toInt ∧ (xs 1).toInt ≤ ((3 : Int), (3 : Int)).2 := ⟨by show (3 : Int) ≤ _; omega, by show _ ≤ (3 : Int); omega⟩
    by_cases h4 : (xs 2).toInt < 0
    · exact xlaw_0b C0 hEn (q := ((3, 3), (-2147483648, -1))) (List.mem_of_getElem? (i := 10) rfl) i1 ⟨r2.1, by show _ ≤ (-1 : Int); omega⟩
    by_cases h5 : 41 ≤ (xs 2).toInt
    · exact xlaw_0b C0 hEn (q := ((3, 3), (41, 2147483647))) (List.mem_of_getElem? (i := 11) rfl) i1 ⟨h5, r2.2⟩
    obtain ⟨k, ek⟩ : ∃ k : Nat, (xs 2).toInt = (k : Int) := ⟨(xs 2).toInt.toNat, by omega⟩
    have i2 : ((k : Int), (k : Int)).1 ≤ (xs 2).toInt ∧ (xs 2).toInt ≤ ((k : Int), (k : Int)).2 := ⟨by show (k : Int) ≤ _; omega, by show _ ≤ (k : Int); omega⟩
    exact xlw_0 C0 hEn i1 i2 (xo0_3_c (by omega)) (xset_get (by decide) (xset_get (by decide) xw0_57)) (xo0_3_k (xset_get (by decide) (xset_get (by decide) xw0_57)) (xset_get (by decide) (xset_get (by decide) xo0_sz)) (xset_get (by decide) (xset_get (by decide) xo0_ar)) (by omega))
  · have i1 : ((4 : Int), (4 : Int)).1 ≤ (xs 1).toInt ∧ (xs 1).toInt ≤ ((4 : Int), (4 : Int)).2 := ⟨by show (4 : Int) ≤ _; omega, by show _ ≤ (4 : Int); omega⟩
    by_cases h4 : (xs 2).toInt < 0
    · exact xlaw_0b C0 hEn (q := ((4, 4), (-2147483648, -1))) (List.mem_of_getElem? (i := 12) rfl) i1 ⟨r2.1, by show _ ≤ (-1 : Int); omega⟩
    by_cases h5 : 41 ≤ (xs 2).toInt
    · exact xlaw_0b C0 hEn (q := ((4, 4), (41, 2147483647))) (List.mem_of_getElem? (i := 13) rfl) i1 ⟨h5, r2.2⟩
    obtain ⟨k, ek⟩ : ∃ k : Nat, (xs 2).toInt = (k : Int) := ⟨(xs 2).toInt.toNat, by omega⟩
    have i2 : ((k : Int), (k : Int)).1 ≤ (xs 2).toInt ∧ (xs 2).toInt ≤ ((k : Int), (k : Int)).2 := ⟨by show (k : Int) ≤ _; omega, by show _ ≤ (k : Int); omega⟩
    exact xlw_0 C0 hEn i1 i2 (xo0_4_c (by omega)) (xset_get (by decide) (xset_get (by decide) xw0_57)) (xo0_4_k (xset_get (by decide) (xset_get (by decide) xw0_57)) (xset_get (by decide) (xset_get (by decide) xo0_sz)) (xset_get (by decide) (xset_get (by decide) xo0_ar)) (by omega))
  · have i1 : ((5 : Int), (5 : Int)).1 ≤ (xs 1).toInt ∧ (xs 1).toInt ≤ ((5 : Int), (5 : Int)).2 := ⟨by show (5 : Int) ≤ _; omega, by show _ ≤ (5 : Int); omega⟩
    by_cases h4 : (xs 2).toInt < 0
    · exact xlaw_0b C0 hEn (q := ((5, 5), (-2147483648, -1))) (List.mem_of_getElem? (i := 14) rfl) i1 ⟨r2.1, by show _ ≤ (-1 : Int); omega⟩
    by_cases h5 : 41 ≤ (xs 2).toInt
    · exact xlaw_0b C0 hEn (q := ((5, 5), (41, 2147483647))) (List.mem_of_getElem? (i := 15) rfl) i1 ⟨h5, r2.2⟩
    obtain ⟨k, ek⟩ : ∃ k : Nat, (xs 2).toInt = (k : Int) := ⟨(xs 2).toInt.toNat, by omega⟩
    have i2 : ((k : Int), (k : Int)).1 ≤ (xs 2).toInt ∧ (xs 2).toInt ≤ ((k : Int), (k : Int)).2 := ⟨by show (k : Int) ≤ _; omega, by show _ ≤ (k : Int); omega⟩
    exact xlw_0 C0 hEn i1 i2 (xo0_5_c (by omega)) (xset_get (by decide) (xset_get (by decide) xw0_57)) (xo0_5_k (xset_get (by decide) (xset_get (by decide) xw0_57)) (xset_get (by decide) (xset_get (by decide) xo0_sz)) (xset_get (by decide) (xset_get (by decide) xo0_ar)) (by omega))
end XLW
theorem xf19_0 : xfetch (xm_t xm19) 0 = some (.aload_n 0, 0, 0, 0) := rfl
theorem xf19_1 : xfetch (xm_t xm19) 1 = some (.iload_n 1, 0, 0, 0) := rfl
theorem xf19_2 : xfetch (xm_t xm19) 2 = some (.invokevirtual 113, 20, 2, 0) := rfl
theorem xf19_5 : xfetch (xm_t xm19) 5 = some (.astore_n 3, 0, 0, 0) := rfl
theorem xf19_6 : xfetch (xm_t xm19) 6 = some (.aload_n 3, 0, 0, 0) := rfl
theorem xf19_7 : xfetch (xm_t xm19) 7 = some (.ifnull 9, 16, 0, 0) := rfl
theorem xf19_10 : xfetch (xm_t xm19) 10 = some (.iload_n 2, 0, 0, 0) := rfl
theorem xf19_11 : xfetch (xm_t xm19) 11 = some (.bipush 40, 0, 0, 40) := rfl
theorem xf19_13 : xfetch (xm_t xm19) 13 = some (.if_icmp .le 5, 18, 0, 0) := rfl
theorem xf19_16 : xfetch (xm_t xm19) 16 = some (.iconst (-1), 0, 0, (-1)) := rfl
theorem xf19_17 : xfetch (xm_t xm19) 17 = some (.ireturn, 0, 0, 0) := rfl
theorem xf19_18 : xfetch (xm_t xm19) 18 = some (.iload_n 2, 0, 0, 0) := rfl
theorem xf19_19 : xfetch (xm_t xm19) 19 = some (.ifCond .ge 9, 28, 0, 0) := rfl
theorem xf19_22 : xfetch (xm_t xm19) 22 = some (.aload_n 0, 0, 0, 0) := rfl
theorem xf19_23 : xfetch (xm_t xm19) 23 = some (.iconst 5, 0, 0, 5) := rfl
theorem xf19_24 : xfetch (xm_t xm19) 24 = some (.invokevirtual 82, 10, 2, 0) := rfl
theorem xf19_27 : xfetch (xm_t xm19) 27 = some (.ireturn, 0, 0, 0) := rfl
theorem xf19_28 : xfetch (xm_t xm19) 28 = some (.aload_n 3, 0, 0, 0) := rfl
theorem xf19_29 : xfetch (xm_t xm19) 29 = some (.iload_n 2, 0, 0, 0) := rfl
theorem xf19_30 : xfetch (xm_t xm19) 30 = some (.bipush 32, 0, 0, 32) := rfl
theorem xf19_32 : xfetch (xm_t xm19) 32 = some (.invokevirtual 86, 11, 3, 0) := rfl
theorem xf19_35 : xfetch (xm_t xm19) 35 = some (.iload_n 2, 0, 0, 0) := rfl
theorem xf19_36 : xfetch (xm_t xm19) 36 = some (.ireturn, 0, 0, 0) := rfl
theorem xf169_0 : xfetch (xm_t xm169) 0 = some (.iload_n 1, 0, 0, 0) := rfl
theorem xf169_1 : xfetch (xm_t xm169) 1 = some (.invokestatic 162, 170, 1, 0) := rfl
theorem xf169_4 : xfetch (xm_t xm169) 4 = some (.ifCond .eq 9, 13, 0, 0) := rfl
theorem xf169_7 : xfetch (xm_t xm169) 7 = some (.iload_n 2, 0, 0, 0) := rfl
theorem xf169_8 : xfetch (xm_t xm169) 8 = some (.bipush 40, 0, 0, 40) := rfl
theorem xf169_10 : xfetch (xm_t xm169) 10 = some (.if_icmp .le 5, 15, 0, 0) := rfl
theorem xf169_13 : xfetch (xm_t xm169) 13 = some (.iconst (-1), 0, 0, (-1)) := rfl
theorem xf169_14 : xfetch (xm_t xm169) 14 = some (.ireturn, 0, 0, 0) := rfl
theorem xf169_15 : xfetch (xm_t xm169) 15 = some (.iload_n 2, 0, 0, 0) := rfl
theorem xf169_16 : xfetch (xm_t xm169) 16 = some (.ifCond .ge 9, 25, 0, 0) := rfl
theorem xf169_19 : xfetch (xm_t xm169) 19 = some (.aload_n 0, 0, 0, 0) := rfl
theorem xf169_20 : xfetch (xm_t xm169) 20 = some (.iconst 5, 0, 0, 5) := rfl
theorem xf169_21 : xfetch (xm_t xm169) 21 = some (.invokevirtual 158, 161, 2, 0) := rfl
theorem xf169_24 : xfetch (xm_t xm169) 24 = some (.ireturn, 0, 0, 0) := rfl
theorem xf169_25 : xfetch (xm_t xm169) 25 = some (.aload_n 0, 0, 0, 0) := rfl
theorem xf169_26 : xfetch (xm_t xm169) 26 = some (.getfield 26, 10, 10, 0) := rfl
theorem xf169_29 : xfetch (xm_t xm169) 29 = some (.iload_n 1, 0, 0, 0) := rfl
theorem xf169_30 : xfetch (xm_t xm169) 30 = some (.iload_n 2, 0, 0, 0) := rfl
theorem xf169_31 : xfetch (xm_t xm169) 31 = some (.iastore, 0, 0, 0) := rfl
theorem xf169_32 : xfetch (xm_t xm169) 32 = some (.iconst 0, 0, 0, 0) := rfl
theorem xf169_33 : xfetch (xm_t xm169) 33 = some (.istore_n 3, 0, 0, 0) := rfl
theorem xf169_34 : xfetch (xm_t xm169) 34 = some (.iload_n 3, 0, 0, 0) := rfl
theorem xf169_35 : xfetch (xm_t xm169) 35 = some (.bipush 40, 0, 0, 40) := rfl
theorem xf169_37 : xfetch (xm_t xm169) 37 = some (.if_icmp .ge 22, 59, 0, 0) := rfl
theorem xf169_40 : xfetch (xm_t xm169) 40 = some (.aload_n 0, 0, 0, 0) := rfl
theorem xf169_41 : xfetch (xm_t xm169) 41 = some (.getfield 29, 10, 11, 0) := rfl
theorem xf169_44 : xfetch (xm_t xm169) 44 = some (.bipush 40, 0, 0, 40) := rfl
theorem xf169_46 : xfetch (xm_t xm169) 46 = some (.iload_n 1, 0, 0, 0) := rfl
theorem xf169_47 : xfetch (xm_t xm169) 47 = some (.imul, 0, 0, 0) := rfl
theorem xf169_48 : xfetch (xm_t xm169) 48 = some (.iload_n 3, 0, 0, 0) := rfl
theorem xf169_49 : xfetch (xm_t xm169) 49 = some (.iadd, 0, 0, 0) := rfl
theorem xf169_50 : xfetch (xm_t xm169) 50 = some (.bipush 32, 0, 0, 32) := rfl
theorem xf169_52 : xfetch (xm_t xm169) 52 = some (.iastore, 0, 0, 0) := rfl
theorem xf169_53 : xfetch (xm_t xm169) 53 = some (.iinc 3 1, 0, 0, 1) := rfl
theorem xf169_56 : xfetch (xm_t xm169) 56 = some (.goto (-22), 34, 0, 0) := rfl
theorem xf169_59 : xfetch (xm_t xm169) 59 = some (.iload_n 2, 0, 0, 0) := rfl
theorem xf169_60 : xfetch (xm_t xm169) 60 = some (.ireturn, 0, 0, 0) := rfl
theorem xo5_sz : xw0[62]? = some (.inr (0, xtl 4 (fun _ => -9))) := @of_decide_eq_true _ (xd10 _ _) (show @decide _ (xd10 (xw0[62]?) (some (.inr (0, xtl 4 (fun _ => -9))))) = true by decide +kernel)
theorem xo5_ar : xw0[63]? = some (.inr (0, xtl 160 (fun _ => 0))) := @of_decide_eq_true _ (xd10 _ _) (show @decide _ (xd10 (xw0[63]?) (some (.inr (0, xtl 160 (fun _ => 0))))) = true by decide +kernel)
def xo5_0_s : XW := [.inl (9, [.inr (.inr (1, 1)), .inr (.inr (1, 2)), .inr (.inr (1, 3)), .inr (.inr (1, 11)), .inr (.inr (1, 12)), .inr (.inr (1, 13)), .inr (.inr (1, 14)), .inr (.inr (1, 16)), .inr (.inr (1, 19)), .inr (.inr (1, 24)), xi 0, xi 0, xi 0, xi 1, xi 0, xi 0, .inr (.inl (some 0)), .inr (.inl (some 0)), .inr (.inl (some 1))]), xhd, .inr (3, [.inr (.inr (1, 37)), .inr (.inr (1, 39)), .inr (.inr (1, 41)), .inr (.inr (1, 43))])]
theorem xo5_0_m : xmrg xo5_0_s xw0 = xw0 := @of_decide_eq_true _ (xd5 _ _) (show @decide _ (xd5 (xmrg xo5_0_s xw0) xw0) = true by decide +kernel)
theorem xo5_0_a : xcf 20 xscA 20 [.inr (.inr (1, 0)), .inl (0, 0)] xw0 = some (some (.inr (.inr (1, 37))), xw0) := by
  have h := xcf_mrg xw0 (N := xm20) rfl rfl (@of_decide_eq_true _ (xd11 _ _) (show @decide _ (xd11 (xcf 20 xscA 20 [.inr (.inr (1, 0)), .inl (0, 0)] xo5_0_s) (some (some (.inr (.inr (1, 37))), xo5_0_s))) = true by decide +kernel))
  rw [xo5_0_m] at h
  exact h
theorem xo5_0_q : xw0[37]? = some (.inl (4, [.inr (.inr (1, 37 + 1)), .inl (-1, -1)])) := rfl
theorem xo5_0_p : xw0[37 + 1]? = some (.inr (0, xtl 40 (fun _ => 0))) := @of_decide_eq_true _ (xd10 _ _) (show @decide _ (xd10 (xw0[37 + 1]?) (some (.inr (0, xtl 40 (fun _ => 0))))) = true by decide +kernel)
abbrev xo5_0_w (n : Nat) : XW := (xw0.set 37 (.inl (4, [.inr (.inr (1, 37 + 1)), .inl ((n : Int), (n : Int))]))).set (37 + 1) (.inr (0, xtl 40 (xfil (fun _ => 0) 32 0 n)))
section XRW
variable {l : Launch} {D : va_G} {tA : Nat → ClassId} {ex : List Nat}
set_option maxRecDepth 100000 in
set_option maxHeartbeats 4000000 in
theorem xo5_0_c {n : Nat} (hn : n ≤ 40) : XMet l D vwCl (tysX tA) tA ex (xSTX ++ [xscA]) xSV xNW xNF xTs xm19 [.inr (.inr (1, 0)), .inl (0, 0), .inl ((n : Int), (n : Int))] xw0 (some (.inl ((n : Int), (n : Int)))) (xo5_0_w n) := by
  refine xmet_ofK x_good (x_tysX tA) (x_tysY tA) (x_tysC tA) x_ok (fun j N as w ro w' => xcf_met j N as w ro w') (j := 19) (w2 := xo5_0_w n) (k2 := 0) (n2 := 0) rfl (Nat.le_of_ble_eq_true rfl) ⟨Nat.le_refl _, Nat.le_refl _⟩ (Or.inr rfl) (fun P hP hF => ?_)
  show P (.inl (0, [(0, .inr (.inr (1, 0))), (1, .inl ((0 : Int), (0 : Int))), (2, .inl ((n : Int), (n : Int)))], [], xw0, 0, 0))
  refine hP.go (r := .inl (1, [(0, .inr (.inr (1, 0))), (1, .inl ((0 : Int), (0 : Int))), (2, .inl ((n : Int), (n : Int)))], [.inr (.inr (1, 0))], xw0, 0, 0)) xf19_0 rfl ?_
  refine hP.go (r := .inl (2, [(0, .inr (.inr (1, 0))), (1, .inl ((0 : Int), (0 : Int))), (2, .inl ((n : Int), (n : Int)))], [.inl ((0 : Int), (0 : Int)), .inr (.inr (1, 0))], xw0, 0, 0)) xf19_1 rfl ?_
  refine hP.go (r := .inl (5, [(0, .inr (.inr (1, 0))), (1, .inl ((0 : Int), (0 : Int))), (2, .inl ((n : Int), (n : Int)))], [.inr (.inr (1, 37))], xw0, 0, 0)) xf19_2 (sx_callv (N := xm20) (ro := some (.inr (.inr (1, 37)))) (w' := xw0) (k := 0) (n := 0) rfl (Nat.le_of_ble_eq_true rfl) (Nat.le_of_ble_eq_true rfl) (Nat.le_of_ble_eq_true rfl) (Nat.le_of_ble_eq_true rfl) (Nat.le_of_ble_eq_true rfl) (Nat.le_of_ble_eq_true rfl) (xrecv_of xw0_0) (xo5_0_a)) ?_
  refine hP.go (r := .inl (6, [(3, .inr (.inr (1, 37))), (0, .inr (.inr (1, 0))), (1, .inl ((0 : Int), (0 : Int))), (2, .inl ((n : Int), (n : Int)))], [], xw0, 0, 0)) xf19_5 rfl ?_
  refine hP.go (r := .inl (7, [(3, .inr (.inr (1, 37))), (0, .inr (.inr (1, 0))), (1, .inl ((0 : Int), (0 : Int))), (2, .inl ((n : Int), (n : Int)))], [.inr (.inr (1, 37))], xw0, 0, 0)) xf19_6 rfl ?_
  refine hP.go (r := .inl (10, [(3, .inr (.inr (1, 37))), (0, .inr (.inr (1, 0))), (1, .inl ((0 : Int), (0 : Int))), (2, .inl ((n : Int), (n : Int)))], [], xw0, 0, 0)) xf19_7 rfl ?_
  refine hP.go (r := .inl (11, [(3, .inr (.inr (1, 37))), (0, .inr (.inr (1, 0))), (1, .inl ((0 : Int), (0 : Int))), (2, .inl ((n : Int), (n : Int)))], [.inl ((n : Int), (n : Int))], xw0, 0, 0)) xf19_10 rfl ?_
  refine hP.go (r := .inl (13, [(3, .inr (.inr (1, 37))), (0, .inr (.inr (1, 0))), (1, .inl ((0 : Int), (0 : Int))), (2, .inl ((n : Int), (n : Int)))], [.inl ((40 : Int), (40 : Int)), .inl ((n : Int), (n : Int))], xw0, 0, 0)) xf19_11 rfl ?_
  refine hP.go (r := .inl (18, [(3, .inr (.inr (1, 37))), (0, .inr (.inr (1, 0))), (1, .inl ((0 : Int), (0 : Int))), (2, .inl ((n : Int), (n : Int)))], [], xw0, 0, 0)) xf19_13 (sx_icmp (o := true) (xcle_of.trans (by simp <;> omega))) ?_
  refine hP.go (r := .inl (19, [(3, .inr (.inr (1, 37))), (0, .inr (.inr (1, 0))), (1, .inl ((0 : Int), (0 : Int))), (2, .inl ((n : Int), (n : Int)))], [.inl ((n : Int), (n : Int))], xw0, 0, 0)) xf19_18 rfl ?_
  refine hP.go (r := .inl (28, [(3, .inr (.inr (1, 37))), (0, .inr (.inr (1, 0))), (1, .inl ((0 : Int), (0 : Int))), (2, .inl ((n : Int), (n : Int)))], [], xw0, 0, 0)) xf19_19 (sx_if (o := true) (xge_of.trans (by simp <;> omega))) ?_
  refine hP.go (r := .inl (29, [(3, .inr (.inr (1, 37))), (0, .inr (.inr (1, 0))), (1, .inl ((0 : Int), (0 : Int))), (2, .inl ((n : Int), (n : Int)))], [.inr (.inr (1, 37))], xw0, 0, 0)) xf19_28 rfl ?_
  refine hP.go (r := .inl (30, [(3, .inr (.inr (1, 37))), (0, .inr (.inr (1, 0))), (1, .inl ((0 : Int), (0 : Int))), (2, .inl ((n : Int), (n : Int)))], [.inl ((n : Int), (n : Int)), .inr (.inr (1, 37))], xw0, 0, 0)) xf19_29 rfl ?_
  refine hP.go (r := .inl (32, [(3, .inr (.inr (1, 37))), (0, .inr (.inr (1, 0))), (1, .inl ((0 : Int), (0 : Int))), (2, .inl ((n : Int), (n : Int)))], [.inl ((32 : Int), (32 : Int)), .inl ((n : Int), (n : Int)), .inr (.inr (1, 37))], xw0, 0, 0)) xf19_30 rfl ?_
  refine hP.2.2.1 _ (35, [(3, .inr (.inr (1, 37))), (0, .inr (.inr (1, 0))), (1, .inl ((0 : Int), (0 : Int))), (2, .inl ((n : Int), (n : Int)))], [], xo5_0_w n, 0, 0) ⟨.invokevirtual 86, 11, 3, 0, xm11, none, xo5_0_w n, xf19_32, rfl, xba_met (q := 37) xo5_0_q xo5_0_p hn, fun cf hc => sx_callv (N := xm11) rfl (Nat.le_of_ble_eq_true rfl) (Nat.le_of_ble_eq_true rfl) (Nat.le_of_ble_eq_true rfl) (Nat.le_of_ble_eq_true rfl) (Nat.le_of_ble_eq_true rfl) (Nat.le_of_ble_eq_true rfl) (xrecv_of xo5_0_q) hc⟩ ?_
  refine hP.go (r := .inl (36, [(3, .inr (.inr (1, 37))), (0, .inr (.inr (1, 0))), (1, .inl ((0 : Int), (0 : Int))), (2, .inl ((n : Int), (n : Int)))], [.inl ((n : Int), (n : Int))], xo5_0_w n, 0, 0)) xf19_35 rfl ?_
  exact hP.go (r := .inr (some (.inl ((n : Int), (n : Int))), xo5_0_w n, 0, 0)) xf19_36 rfl hF
theorem xo5_0_i {W : XW} : xcf 20 xscA 170 [.inl (0, 0)] W = some (some (.inl (1, 1)), W) := xcf_mrg W (w := []) (w' := []) (N := xm170) rfl rfl (@of_decide_eq_true _ (xd11 _ _) (show @decide _ (xd11 (xcf 20 xscA 170 [.inl (0, 0)] []) (some (some (.inl (1, 1)), []))) = true by decide +kernel))
set_option maxRecDepth 100000 in
set_option maxHeartbeats 4000000 in
theorem xo5_0_l {P : XR → Prop} (hP : XCl (xSt xscA xm169) (xJm l D tA ex xscA xm169) P) {W : XW} (h57 : W[57]? = some xc57) (hl : 63 < W.length) {n : Nat} (hn : n ≤ 40) (hF : P (.inr (some (.inl ((n : Int), (n : Int))), (W.set 62 (.inr (0, xtl 4 (xup (fun _ => -9) 0 (n : Int))))).set 63 (.inr (0, xtl 160 (xfil (fun _ => 0) 32 0 40))), 0, 0))) : ∀ (d i : Nat), i + d = 40 → P (.inl (34, [(3, .inl ((i : Int), (i : Int))), (0, .inr (.inr (1, 57))), (1, .inl ((0 : Int), (0 : Int))), (2, .inl ((n : Int), (n : Int)))], [], (W.set 62 (.inr (0, xtl 4 (xup (fun _ => -9) 0 (n : Int))))).set 63 (.inr (0, xtl 160 (xfil (fun _ => 0) 32 0 i))), 0, 0)) := fun d => by
  induction d with
  | zero =>
    intro i hi
    refine hP.go (r := .inl (35, [(3, .inl ((i : Int), (i : Int))), (0, .inr (.inr (1, 57))), (1, .inl ((0 : Int), (0 : Int))), (2, .inl ((n : Int), (n : Int)))], [.inl ((i : Int), (i : Int))], (W.set 62 (.inr (0, xtl 4 (xup (fun _ => -9) 0 (n : Int))))).set 63 (.inr (0, xtl 160 (xfil (fun _ => 0) 32 0 i))), 0, 0)) xf169_34 rfl ?_
    refine hP.go (r := .inl (37, [(3, .inl ((i : Int), (i : Int))), (0, .inr (.inr (1, 57))), (1, .inl ((0 : Int), (0 : Int))), (2, .inl ((n : Int), (n : Int)))], [.inl ((40 : Int), (40 : Int)), .inl ((i : Int), (i : Int))], (W.set 62 (.inr (0, xtl 4 (xup (fun _ => -9) 0 (n : Int))))).set 63 (.inr (0, xtl 160 (xfil (fun _ => 0) 32 0 i))), 0, 0)) xf169_35 rfl ?_
    refine hP.go (r := .inl (59, [(3, .inl ((i : Int), (i : Int))), (0, .inr (.inr (1, 57))), (1, .inl ((0 : Int), (0 : Int))), (2, .inl ((n : Int), (n : Int)))], [], (W.set 62 (.inr (0, xtl 4 (xup (fun _ => -9) 0 (n : Int))))).set 63 (.inr (0, xtl 160 (xfil (fun _ => 0) 32 0 i))), 0, 0)) xf169_37 (sx_icmp (o := true) (xge_of.trans (by simp <;> omega))) ?_
    refine hP.go (r := .inl (60, [(3, .inl ((i : Int), (i : Int))), (0, .inr (.inr (1, 57))), (1, .inl ((0 : Int), (0 : Int))), (2, .inl ((n : Int), (n : Int)))], [.inl ((n : Int), (n : Int))], (W.set 62 (.inr (0, xtl 4 (xup (fun _ => -9) 0 (n : Int))))).set 63 (.inr (0, xtl 160 (xfil (fun _ => 0) 32 0 i))), 0, 0)) xf169_59 rfl ?_
    have e : i = 40 := by omega
    subst e
    exact hP.go (r := .inr (some (.inl ((n : Int), (n : Int))), (W.set 62 (.inr (0, xtl 4 (xup (fun _ => -9) 0 (n : Int))))).set 63 (.inr (0, xtl 160 (xfil (fun _ => 0) 32 0 40))), 0, 0)) xf169_60 rfl hF
  | succ d ih =>
    intro i hi
    have g57 : ((W.set 62 (.inr (0, xtl 4 (xup (fun _ => -9) 0 (n : Int))))).set 63 (.inr (0, xtl 160 (xfil (fun _ => 0) 32 0 i))))[57]? = some xc57 := xset_get (by decide) (xset_get (by decide) h57)
    have g2 : ((W.set 62 (.inr (0, xtl 4 (xup (fun _ => -9) 0 (n : Int))))).set 63 (.inr (0, xtl 160 (xfil (fun _ => 0) 32 0 i))))[63]? = some (.inr (0, xtl 160 (xfil (fun _ => 0) 32 0 i))) := xset_at (by rw [List.length_set]; exact hl)
    refine hP.go (r := .inl (35, [(3, .inl ((i : Int), (i : Int))), (0, .inr (.inr (1, 57))), (1, .inl ((0 : Int), (0 : Int))), (2, .inl ((n : Int), (n : Int)))], [.inl ((i : Int), (i : Int))], (W.set 62 (.inr (0, xtl 4 (xup (fun _ => -9) 0 (n : Int))))).set 63 (.inr (0, xtl 160 (xfil (fun _ => 0) 32 0 i))), 0, 0)) xf169_34 rfl ?_
    refine hP.go (r := .inl (37, [(3, .inl ((i : Int), (i : Int))), (0, .inr (.inr (1, 57))), (1, .inl ((0 : Int), (0 : Int))), (2, .inl ((n : Int), (n : Int)))], [.inl ((40 : Int), (40 : Int)), .inl ((i : Int), (i : Int))], (W.set 62 (.inr (0, xtl 4 (xup (fun _ => -9) 0 (n : Int))))).set 63 (.inr (0, xtl 160 (xfil (fun _ => 0) 32 0 i))), 0, 0)) xf169_35 rfl ?_
    refine hP.go (r := .inl (40, [(3, .inl ((i : Int), (i : Int))), (0, .inr (.inr (1, 57))), (1, .inl ((0 : Int), (0 : Int))), (2, .inl ((n : Int), (n : Int)))], [], (W.set 62 (.inr (0, xtl 4 (xup (fun _ => -9) 0 (n : Int))))).set 63 (.inr (0, xtl 160 (xfil (fun _ => 0) 32 0 i))), 0, 0)) xf169_37 (sx_icmp (o := false) (xge_of.trans (by simp <;> omega))) ?_
    refine hP.go (r := .inl (41, [(3, .inl ((i : Int), (i : Int))), (0, .inr (.inr (1, 57))), (1, .inl ((0 : Int), (0 : Int))), (2, .inl ((n : Int), (n : Int)))], [.inr (.inr (1, 57))], (W.set 62 (.inr (0, xtl 4 (xup (fun _ => -9) 0 (n : Int))))).set 63 (.inr (0, xtl 160 (xfil (fun _ => 0) 32 0 i))), 0, 0)) xf169_40 rfl ?_
    refine hP.go (r := .inl (44, [(3, .inl ((i : Int), (i : Int))), (0, .inr (.inr (1, 57))), (1, .inl ((0 : Int), (0 : Int))), (2, .inl ((n : Int), (n : Int)))], [.inr (.inr (1, 63))], (W.set 62 (.inr (0, xtl 4 (xup (fun _ => -9) 0 (n : Int))))).set 63 (.inr (0, xtl 160 (xfil (fun _ => 0) 32 0 i))), 0, 0)) xf169_41 (sx_get g57 rfl) ?_
    refine hP.go (r := .inl (46, [(3, .inl ((i : Int), (i : Int))), (0, .inr (.inr (1, 57))), (1, .inl ((0 : Int), (0 : Int))), (2, .inl ((n : Int), (n : Int)))], [.inl ((40 : Int), (40 : Int)), .inr (.inr (1, 63))], (W.set 62 (.inr (0, xtl 4 (xup (fun _ => -9) 0 (n : Int))))).set 63 (.inr (0, xtl 160 (xfil (fun _ => 0) 32 0 i))), 0, 0)) xf169_44 rfl ?_
    refine hP.go (r := .inl (47, [(3, .inl ((i : Int), (i : Int))), (0, .inr (.inr (1, 57))), (1, .inl ((0 : Int), (0 : Int))), (2, .inl ((n : Int), (n : Int)))], [.inl ((0 : Int), (0 : Int)), .inl ((40 : Int), (40 : Int)), .inr (.inr (1, 63))], (W.set 62 (.inr (0, xtl 4 (xup (fun _ => -9) 0 (n : Int))))).set 63 (.inr (0, xtl 160 (xfil (fun _ => 0) 32 0 i))), 0, 0)) xf169_46 rfl ?_
    refine hP.go (r := .inl (48, [(3, .inl ((i : Int), (i : Int))), (0, .inr (.inr (1, 57))), (1, .inl ((0 : Int), (0 : Int))), (2, .inl ((n : Int), (n : Int)))], [.inl ((0 : Int), (0 : Int)), .inr (.inr (1, 63))], (W.set 62 (.inr (0, xtl 4 (xup (fun _ => -9) 0 (n : Int))))).set 63 (.inr (0, xtl 160 (xfil (fun _ => 0) 32 0 i))), 0, 0)) xf169_47 (sx_imul (by decide +kernel)) ?_
    refine hP.go (r := .inl (49, [(3, .inl ((i : Int), (i : Int))), (0, .inr (.inr (1, 57))), (1, .inl ((0 : Int), (0 : Int))), (2, .inl ((n : Int), (n : Int)))], [.inl ((i : Int), (i : Int)), .inl ((0 : Int), (0 : Int)), .inr (.inr (1, 63))], (W.set 62 (.inr (0, xtl 4 (xup (fun _ => -9) 0 (n : Int))))).set 63 (.inr (0, xtl 160 (xfil (fun _ => 0) 32 0 i))), 0, 0)) xf169_48 rfl ?_
    refine hP.go (r := .inl (50, [(3, .inl ((i : Int), (i : Int))), (0, .inr (.inr (1, 57))), (1, .inl ((0 : Int), (0 : Int))), (2, .inl ((n : Int), (n : Int)))], [.inl ((0 : Int) + (i : Int), (0 : Int) + (i : Int)), .inr (.inr (1, 63))], (W.set 62 (.inr (0, xtl 4 (xup (fun _ => -9) 0 (n : Int))))).set 63 (.inr (0, xtl 160 (xfil (fun _ => 0) 32 0 i))), 0, 0)) xf169_49 (sx_iadd (by omega)) ?_
    refine hP.go (r := .inl (52, [(3, .inl ((i : Int), (i : Int))), (0, .inr (.inr (1, 57))), (1, .inl ((0 : Int), (0 : Int))), (2, .inl ((n : Int), (n : Int)))], [.inl ((32 : Int), (32 : Int)), .inl ((0 : Int) + (i : Int), (0 : Int) + (i : Int)), .inr (.inr (1, 63))], (W.set 62 (.inr (0, xtl 4 (xup (fun _ => -9) 0 (n : Int))))).set 63 (.inr (0, xtl 160 (xfil (fun _ => 0) 32 0 i))), 0, 0)) xf169_50 rfl ?_
    refine hP.go (r := .inl (53, [(3, .inl ((i : Int), (i : Int))), (0, .inr (.inr (1, 57))), (1, .inl ((0 : Int), (0 : Int))), (2, .inl ((n : Int), (n : Int)))], [], (W.set 62 (.inr (0, xtl 4 (xup (fun _ => -9) 0 (n : Int))))).set 63 (.inr (0, xtl 160 (xup (xfil (fun _ => 0) 32 0 i) (0 + i) 32))), 0, 0)) xf169_52 ((sx_iast g2 (xtl_writez (c := 0 + i) (by omega) (by omega))).trans (by rw [List.set_set])) ?_
    refine hP.go (r := .inl (56, [(3, .inl ((i : Int) + 1, (i : Int) + 1)), (0, .inr (.inr (1, 57))), (1, .inl ((0 : Int), (0 : Int))), (2, .inl ((n : Int), (n : Int)))], [], (W.set 62 (.inr (0, xtl 4 (xup (fun _ => -9) 0 (n : Int))))).set 63 (.inr (0, xtl 160 (xup (xfil (fun _ => 0) 32 0 i) (0 + i) 32))), 0, 0)) xf169_53 (sx_iinc rfl (Nat.le_of_ble_eq_true rfl) (by dsimp only; omega)) ?_
    refine hP.go (r := .inl (34, [(3, .inl ((i : Int) + 1, (i : Int) + 1)), (0, .inr (.inr (1, 57))), (1, .inl ((0 : Int), (0 : Int))), (2, .inl ((n : Int), (n : Int)))], [], (W.set 62 (.inr (0, xtl 4 (xup (fun _ => -9) 0 (n : Int))))).set 63 (.inr (0, xtl 160 (xup (xfil (fun _ => 0) 32 0 i) (0 + i) 32))), 0, 0)) xf169_56 rfl ?_
    have h := ih (i + 1) (by omega)
    rw [show ((i + 1 : Nat) : Int) = (i : Int) + 1 from rfl] at h
    rw [xfil_up]
    exact h
set_option maxRecDepth 100000 in
set_option maxHeartbeats 4000000 in
theorem xo5_0_k {W : XW} (h57 : W[57]? = some xc57) (hsz : W[62]? = some (.inr (0, xtl 4 (fun _ => -9)))) (har : W[63]? = some (.inr (0, xtl 160 (fun _ => 0)))) {n : Nat} (hn : n ≤ 40) : XMet l D vwCl (tysX tA) tA ex (xSTX ++ [xscA]) xSV xNW xNF xTs xm169 [.inr (.inr (1, 57)), .inl (0, 0), .inl ((n : Int), (n : Int))] W (some (.inl ((n : Int), (n : Int)))) ((W.set 62 (.inr (0, xtl 4 (xup (fun _ => -9) 0 (n : Int))))).set 63 (.inr (0, xtl 160 (xfil (fun _ => 0) 32 0 40)))) := by
  have hl : 63 < W.length := (List.getElem?_eq_some_iff.mp har).1
  refine xmet_ofK x_good (x_tysX tA) (x_tysY tA) (x_tysC tA) x_ok (fun j N as w ro w' => xcf_met j N as w ro w') (j := 169) (w2 := (W.set 62 (.inr (0, xtl 4 (xup (fun _ => -9) 0 (n : Int))))).set 63 (.inr (0, xtl 160 (xfil (fun _ => 0) 32 0 40)))) (k2 := 0) (n2 := 0) rfl (Nat.le_of_ble_eq_true rfl) ⟨Nat.le_refl _, Nat.le_refl _⟩ (Or.inr rfl) (fun P hP hF => ?_)
  show P (.inl (0, [(0, .inr (.inr (1, 57))), (1, .inl ((0 : Int), (0 : Int))), (2, .inl ((n : Int), (n : Int)))], [], W, 0, 0))
  refine hP.go (r := .inl (1, [(0, .inr (.inr (1, 57))), (1, .inl ((0 : Int), (0 : Int))), (2, .inl ((n : Int), (n : Int)))], [.inl ((0 : Int), (0 : Int))], W, 0, 0)) xf169_0 rfl ?_
  refine hP.go (r := .inl (4, [(0, .inr (.inr (1, 57))), (1, .inl ((0 : Int), (0 : Int))), (2, .inl ((n : Int), (n : Int)))], [.inl ((1 : Int), (1 : Int))], W, 0, 0)) xf169_1 (sx_calls (N := xm170) (ro := some (.inl ((1 : Int), (1 : Int)))) (w' := W) (k := 0) (n := 0) (by decide) rfl (Nat.le_of_ble_eq_true rfl) (Nat.le_of_ble_eq_true rfl) (Nat.le_of_ble_eq_true rfl) (Nat.le_of_ble_eq_true rfl) (Nat.le_of_ble_eq_true rfl) (Nat.le_of_ble_eq_true rfl) (xo5_0_i)) ?_
  refine hP.go (r := .inl (7, [(0, .inr (.inr (1, 57))), (1, .inl ((0 : Int), (0 : Int))), (2, .inl ((n : Int), (n : Int)))], [], W, 0, 0)) xf169_4 (sx_if (o := false) rfl) ?_
  refine hP.go (r := .inl (8, [(0, .inr (.inr (1, 57))), (1, .inl ((0 : Int), (0 : Int))), (2, .inl ((n : Int), (n : Int)))], [.inl ((n : Int), (n : Int))], W, 0, 0)) xf169_7 rfl ?_
  refine hP.go (r := .inl (10, [(0, .inr (.inr (1, 57))), (1, .inl ((0 : Int), (0 : Int))), (2, .inl ((n : Int), (n : Int)))], [.inl ((40 : Int), (40 : Int)), .inl ((n : Int), (n : Int))], W, 0, 0)) xf169_8 rfl ?_
  refine hP.go (r := .inl (15, [(0, .inr (.inr (1, 57))), (1, .inl ((0 : Int), (0 : Int))), (2, .inl ((n : Int), (n : Int)))], [], W, 0, 0)) xf169_10 (sx_icmp (o := true) (xcle_of.trans (by simp <;> omega))) ?_
  refine hP.go (r := .inl (16, [(0, .inr (.inr (1, 57))), (1, .inl ((0 : Int), (0 : Int))), (2, .inl ((n : Int), (n : Int)))], [.inl ((n : Int), (n : Int))], W, 0, 0)) xf169_15 rfl ?_
  refine hP.go (r := .inl (25, [(0, .inr (.inr (1, 57))), (1, .inl ((0 : Int), (0 : Int))), (2, .inl ((n : Int), (n : Int)))], [], W, 0, 0)) xf169_16 (sx_if (o := true) (xge_of.trans (by simp <;> omega))) ?_
  refine hP.go (r := .inl (26, [(0, .inr (.inr (1, 57))), (1, .inl ((0 : Int), (0 : Int))), (2, .inl ((n : Int), (n : Int)))], [.inr (.inr (1, 57))], W, 0, 0)) xf169_25 rfl ?_
  refine hP.go (r := .inl (29, [(0, .inr (.inr (1, 57))), (1, .inl ((0 : Int), (0 : Int))), (2, .inl ((n : Int), (n : Int)))], [.inr (.inr (1, 62))], W, 0, 0)) xf169_26 (sx_get h57 rfl) ?_
  refine hP.go (r := .inl (30, [(0, .inr (.inr (1, 57))), (1, .inl ((0 : Int), (0 : Int))), (2, .inl ((n : Int), (n : Int)))], [.inl ((0 : Int), (0 : Int)), .inr (.inr (1, 62))], W, 0, 0)) xf169_29 rfl ?_
  refine hP.go (r := .inl (31, [(0, .inr (.inr (1, 57))), (1, .inl ((0 : Int), (0 : Int))), (2, .inl ((n : Int), (n : Int)))], [.inl ((n : Int), (n : Int)), .inl ((0 : Int), (0 : Int)), .inr (.inr (1, 62))], W, 0, 0)) xf169_30 rfl ?_
  refine hP.go (r := .inl (32, [(0, .inr (.inr (1, 57))), (1, .inl ((0 : Int), (0 : Int))), (2, .inl ((n : Int), (n : Int)))], [], (W.set 62 (.inr (0, xtl 4 (xup (fun _ => -9) 0 (n : Int))))), 0, 0)) xf169_31 (sx_iast hsz (xtl_writez (c := 0) rfl (by decide))) ?_
  refine hP.go (r := .inl (33, [(0, .inr (.inr (1, 57))), (1, .inl ((0 : Int), (0 : Int))), (2, .inl ((n : Int), (n : Int)))], [.inl ((0 : Int), (0 : Int))], (W.set 62 (.inr (0, xtl 4 (xup (fun _ => -9) 0 (n : Int))))), 0, 0)) xf169_32 rfl ?_
  refine hP.go (r := .inl (34, [(3, .inl ((0 : Int), (0 : Int))), (0, .inr (.inr (1, 57))), (1, .inl ((0 : Int), (0 : Int))), (2, .inl ((n : Int), (n : Int)))], [], (W.set 62 (.inr (0, xtl 4 (xup (fun _ => -9) 0 (n : Int))))), 0, 0)) xf169_33 rfl ?_
  have h := xo5_0_l hP h57 hl hn hF 40 0 (Nat.zero_add _)
  rw [xfil_0] at h
  have e : (W.set 62 (.inr (0, xtl 4 (xup (fun _ => -9) 0 (n : Int))))).set 63 (.inr (0, xtl 160 (fun _ => 0))) = (W.set 62 (.inr (0, xtl 4 (xup (fun _ => -9) 0 (n : Int))))) := by
    have e1 : (W.set 62 (.inr (0, xtl 4 (xup (fun _ => -9) 0 (n : Int)))))[63]? = some (.inr (0, xtl 160 (fun _ => 0))) := xset_get (by decide) har
    obtain ⟨h1, e2⟩ := List.getElem?_eq_some_iff.mp e1
    rw [← e2]
    exact List.set_getElem_self h1
  rw [e] at h
  exact h
end XRW
def xo5_1_s : XW := [.inl (9, [.inr (.inr (1, 1)), .inr (.inr (1, 2)), .inr (.inr (1, 3)), .inr (.inr (1, 11)), .inr (.inr (1, 12)), .inr (.inr (1, 13)), .inr (.inr (1, 14)), .inr (.inr (1, 16)), .inr (.inr (1, 19)), .inr (.inr (1, 24)), xi 0, xi 0, xi 0, xi 1, xi 0, xi 0, .inr (.inl (some 0)), .inr (.inl (some 0)), .inr (.inl (some 1))]), xhd, .inr (3, [.inr (.inr (1, 37)), .inr (.inr (1, 39)), .inr (.inr (1, 41)), .inr (.inr (1, 43))])]
theorem xo5_1_m : xmrg xo5_1_s xw0 = xw0 := @of_decide_eq_true _ (xd5 _ _) (show @decide _ (xd5 (xmrg xo5_1_s xw0) xw0) = true by decide +kernel)
theorem xo5_1_a : xcf 20 xscA 20 [.inr (.inr (1, 0)), .inl (1, 1)] xw0 = some (some (.inr (.inr (1, 39))), xw0) := by
  have h := xcf_mrg xw0 (N := xm20) rfl rfl (@of_decide_eq_true _ (xd11 _ _) (show @decide _ (xd11 (xcf 20 xscA 20 [.inr (.inr (1, 0)), .inl (1, 1)] xo5_1_s) (some (some (.inr (.inr (1, 39))), xo5_1_s))) = true by decide +kernel))
  rw [xo5_1_m] at h
  exact h
theorem xo5_1_q : xw0[39]? = some (.inl (4, [.inr (.inr (1, 39 + 1)), .inl (-1, -1)])) := rfl
theorem xo5_1_p : xw0[39 + 1]? = some (.inr (0, xtl 40 (fun _ => 0))) := @of_decide_eq_true _ (xd10 _ _) (show @decide _ (xd10 (xw0[39 + 1]?) (some (.inr (0, xtl 40 (fun _ => 0))))) = true by decide +kernel)
abbrev xo5_1_w (n : Nat) : XW := (xw0.set 39 (.inl (4, [.inr (.inr (1, 39 + 1)), .inl ((n : Int), (n : Int))]))).set (39 + 1) (.inr (0, xtl 40 (xfil (fun _ => 0) 32 0 n)))
section XRW
variable {l : Launch} {D : va_G} {tA : Nat → ClassId} {ex : List Nat}
set_option maxRecDepth 100000 in
set_option maxHeartbeats 4000000 in
theorem xo5_1_c {n : Nat} (hn : n ≤ 40) : XMet l D vwCl (tysX tA) tA ex (xSTX ++ [xscA]) xSV xNW xNF xTs xm19 [.inr (.inr (1, 0)), .inl (1, 1), .inl ((n : Int), (n : Int))] xw0 (some (.inl ((n : Int), (n : Int)))) (xo5_1_w n) := by
  refine xmet_ofK x_good (x_tysX tA) (x_tysY tA) (x_tysC tA) x_ok (fun j N as w ro w' => xcf_met j N as w ro w') (j := 19) (w2 := xo5_1_w n) (k2 := 0) (n2 := 0) rfl (Nat.le_of_ble_eq_true rfl) ⟨Nat.le_refl _, Nat.le_refl _⟩ (Or.inr rfl) (fun P hP hF => ?_)
  show P (.inl (0, [(0, .inr (.inr (1, 0))), (1, .inl ((1 : Int), (1 : Int))), (2, .inl ((n : Int), (n : Int)))], [], xw0, 0, 0))
  refine hP.go (r := .inl (1, [(0, .inr (.inr (1, 0))), (1, .inl ((1 : Int), (1 : Int))), (2, .inl ((n : Int), (n : Int)))], [.inr (.inr (1, 0))], xw0, 0, 0)) xf19_0 rfl ?_
  refine hP.go (r := .inl (2, [(0, .inr (.inr (1, 0))), (1, .inl ((1 : Int), (1 : Int))), (2, .inl ((n : Int), (n : Int)))], [.inl ((1 : Int), (1 : Int)), .inr (.inr (1, 0))], xw0, 0, 0)) xf19_1 rfl ?_
  refine hP.go (r := .inl (5, [(0, .inr (.inr (1, 0))), (1, .inl ((1 : Int), (1 : Int))), (2, .inl ((n : Int), (n : Int)))], [.inr (.inr (1, 39))], xw0, 0, 0)) xf19_2 (sx_callv (N := xm20) (ro := some (.inr (.inr (1, 39)))) (w' := xw0) (k := 0) (n := 0) rfl (Nat.le_of_ble_eq_true rfl) (Nat.le_of_ble_eq_true rfl) (Nat.le_of_ble_eq_true rfl) (Nat.le_of_ble_eq_true rfl) (Nat.le_of_ble_eq_true rfl) (Nat.le_of_ble_eq_true rfl) (xrecv_of xw0_0) (xo5_1_a)) ?_
  refine hP.go (r := .inl (6, [(3, .inr (.inr (1, 39))), (0, .inr (.inr (1, 0))), (1, .inl ((1 : Int), (1 : Int))), (2, .inl ((n : Int), (n : Int)))], [], xw0, 0, 0)) xf19_5 rfl ?_
  refine hP.go (r := .inl (7, [(3, .inr (.inr (1, 39))), (0, .inr (.inr (1, 0))), (1, .inl ((1 : Int), (1 : Int))), (2, .inl ((n : Int), (n : Int)))], [.inr (.inr (1, 39))], xw0, 0, 0)) xf19_6 rfl ?_
  refine hP.go (r := .inl (10, [(3, .inr (.inr (1, 39))), (0, .inr (.inr (1, 0))), (1, .inl ((1 : Int), (1 : Int))), (2, .inl ((n : Int), (n : Int)))], [], xw0, 0, 0)) xf19_7 rfl ?_
  refine hP.go (r := .inl (11, [(3, .inr (.inr (1, 39))), (0, .inr (.inr (1, 0))), (1, .inl ((1 : Int), (1 : Int))), (2, .inl ((n : Int), (n : Int)))], [.inl ((n : Int), (n : Int))], xw0, 0, 0)) xf19_10 rfl ?_
  refine hP.go (r := .inl (13, [(3, .inr (.inr (1, 39))), (0, .inr (.inr (1, 0))), (1, .inl ((1 : Int), (1 : Int))), (2, .inl ((n : Int), (n : Int)))], [.inl ((40 : Int), (40 : Int)), .inl ((n : Int), (n : Int))], xw0, 0, 0)) xf19_11 rfl ?_
  refine hP.go (r := .inl (18, [(3, .inr (.inr (1, 39))), (0, .inr (.inr (1, 0))), (1, .inl ((1 : Int), (1 : Int))), (2, .inl ((n : Int), (n : Int)))], [], xw0, 0, 0)) xf19_13 (sx_icmp (o := true) (xcle_of.trans (by simp <;> omega))) ?_
  refine hP.go (r := .inl (19, [(3, .inr (.inr (1, 39))), (0, .inr (.inr (1, 0))), (1, .inl ((1 : Int), (1 : Int))), (2, .inl ((n : Int), (n : Int)))], [.inl ((n : Int), (n : Int))], xw0, 0, 0)) xf19_18 rfl ?_
  refine hP.go (r := .inl (28, [(3, .inr (.inr (1, 39))), (0, .inr (.inr (1, 0))), (1, .inl ((1 : Int), (1 : Int))), (2, .inl ((n : Int), (n : Int)))], [], xw0, 0, 0)) xf19_19 (sx_if (o := true) (xge_of.trans (by simp <;> omega))) ?_
  refine hP.go (r := .inl (29, [(3, .inr (.inr (1, 39))), (0, .inr (.inr (1, 0))), (1, .inl ((1 : Int), (1 : Int))), (2, .inl ((n : Int), (n : Int)))], [.inr (.inr (1, 39))], xw0, 0, 0)) xf19_28 rfl ?_
  refine hP.go (r := .inl (30, [(3, .inr (.inr (1, 39))), (0, .inr (.inr (1, 0))), (1, .inl ((1 : Int), (1 : Int))), (2, .inl ((n : Int), (n : Int)))], [.inl ((n : Int), (n : Int)), .inr (.inr (1, 39))], xw0, 0, 0)) xf19_29 rfl ?_
  refine hP.go (r := .inl (32, [(3, .inr (.inr (1, 39))), (0, .inr (.inr (1, 0))), (1, .inl ((1 : Int), (1 : Int))), (2, .inl ((n : Int), (n : Int)))], [.inl ((32 : Int), (32 : Int)), .inl ((n : Int), (n : Int)), .inr (.inr (1, 39))], xw0, 0, 0)) xf19_30 rfl ?_
  refine hP.2.2.1 _ (35, [(3, .inr (.inr (1, 39))), (0, .inr (.inr (1, 0))), (1, .inl ((1 : Int), (1 : Int))), (2, .inl ((n : Int), (n : Int)))], [], xo5_1_w n, 0, 0) ⟨.invokevirtual 86, 11, 3, 0, xm11, none, xo5_1_w n, xf19_32, rfl, xba_met (q := 39) xo5_1_q xo5_1_p hn, fun cf hc => sx_callv (N := xm11) rfl (Nat.le_of_ble_eq_true rfl) (Nat.le_of_ble_eq_true rfl) (Nat.le_of_ble_eq_true rfl) (Nat.le_of_ble_eq_true rfl) (Nat.le_of_ble_eq_true rfl) (Nat.le_of_ble_eq_true rfl) (xrecv_of xo5_1_q) hc⟩ ?_
  refine hP.go (r := .inl (36, [(3, .inr (.inr (1, 39))), (0, .inr (.inr (1, 0))), (1, .inl ((1 : Int), (1 : Int))), (2, .inl ((n : Int), (n : Int)))], [.inl ((n : Int), (n : Int))], xo5_1_w n, 0, 0)) xf19_35 rfl ?_
  exact hP.go (r := .inr (some (.inl ((n : Int), (n : Int))), xo5_1_w n, 0, 0)) xf19_36 rfl hF
theorem xo5_1_i {W : XW} : xcf 20 xscA 170 [.inl (1, 1)] W = some (some (.inl (1, 1)), W) := xcf_mrg W (w := []) (w' := []) (N := xm170) rfl rfl (@of_decide_eq_true _ (xd11 _ _) (show @decide _ (xd11 (xcf 20 xscA 170 [.inl (1, 1)] []) (some (some (.inl (1, 1)), []))) = true by decide +kernel))
set_option maxRecDepth 100000 in
set_option maxHeartbeats 4000000 in
theorem xo5_1_l {P : XR → Prop} (hP : XCl (xSt xscA xm169) (xJm l D tA ex xscA xm169) P) {W : XW} (h57 : W[57]? = some xc57) (hl : 63 < W.length) {n : Nat} (hn : n ≤ 40) (hF : P (.inr (some (.inl ((n : Int), (n : Int))), (W.set 62 (.inr (0, xtl 4 (xup (fun _ => -9) 1 (n : Int))))).set 63 (.inr (0, xtl 160 (xfil (fun _ => 0) 32 40 40))), 0, 0))) : ∀ (d i : Nat), i + d = 40 → P (.inl (34, [(3, .inl ((i : Int), (i : Int))), (0, .inr (.inr (1, 57))), (1, .inl ((1 : Int), (1 : Int))), (2, .inl ((n : Int), (n : Int)))], [], (W.set 62 (.inr (0, xtl 4 (xup (fun _ => -9) 1 (n : Int))))).set 63 (.inr (0, xtl 160 (xfil (fun _ => 0) 32 40 i))), 0, 0)) := fun d => by
  induction d with
  | zero =>
    intro i hi
    refine hP.go (r := .inl (35, [(3, .inl ((i : Int), (i : Int))), (0, .inr (.inr (1, 57))), (1, .inl ((1 : Int), (1 : Int))), (2, .inl ((n : Int), (n : Int)))], [.inl ((i : Int), (i : Int))], (W.set 62 (.inr (0, xtl 4 (xup (fun _ => -9) 1 (n : Int))))).set 63 (.inr (0, xtl 160 (xfil (fun _ => 0) 32 40 i))), 0, 0)) xf169_34 rfl ?_
    refine hP.go (r := .inl (37, [(3, .inl ((i : Int), (i : Int))), (0, .inr (.inr (1, 57))), (1, .inl ((1 : Int), (1 : Int))), (2, .inl ((n : Int), (n : Int)))], [.inl ((40 : Int), (40 : Int)), .inl ((i : Int), (i : Int))], (W.set 62 (.inr (0, xtl 4 (xup (fun _ => -9) 1 (n : Int))))).set 63 (.inr (0, xtl 160 (xfil (fun _ => 0) 32 40 i))), 0, 0)) xf169_35 rfl ?_
    refine hP.go (r := .inl (59, [(3, .inl ((i : Int), (i : Int))), (0, .inr (.inr (1, 57))), (1, .inl ((1 : Int), (1 : Int))), (2, .inl ((n : Int), (n : Int)))], [], (W.set 62 (.inr (0, xtl 4 (xup (fun _ => -9) 1 (n : Int))))).set 63 (.inr (0, xtl 160 (xfil (fun _ => 0) 32 40 i))), 0, 0)) xf169_37 (sx_icmp (o := true) (xge_of.trans (by simp <;> omega))) ?_
    refine hP.go (r := .inl (60, [(3, .inl ((i : Int), (i : Int))), (0, .inr (.inr (1, 57))), (1, .inl ((1 : Int), (1 : Int))), (2, .inl ((n : Int), (n : Int)))], [.inl ((n : Int), (n : Int))], (W.set 62 (.inr (0, xtl 4 (xup (fun _ => -9) 1 (n : Int))))).set 63 (.inr (0, xtl 160 (xfil (fun _ => 0) 32 40 i))), 0, 0)) xf169_59 rfl ?_
    have e : i = 40 := by omega
    subst e
    exact hP.go (r := .inr (some (.inl ((n : Int), (n : Int))), (W.set 62 (.inr (0, xtl 4 (xup (fun _ => -9) 1 (n : Int))))).set 63 (.inr (0, xtl 160 (xfil (fun _ => 0) 32 40 40))), 0, 0)) xf169_60 rfl hF
  | succ d ih =>
    intro i hi
    have g57 : ((W.set 62 (.inr (0, xtl 4 (xup (fun _ => -9) 1 (n : Int))))).set 63 (.inr (0, xtl 160 (xfil (fun _ => 0) 32 40 i))))[57]? = some xc57 := xset_get (by decide) (xset_get (by decide) h57)
    have g2 : ((W.set 62 (.inr (0, xtl 4 (xup (fun _ => -9) 1 (n : Int))))).set 63 (.inr (0, xtl 160 (xfil (fun _ => 0) 32 40 i))))[63]? = some (.inr (0, xtl 160 (xfil (fun _ => 0) 32 40 i))) := xset_at (by rw [List.length_set]; exact hl)
    refine hP.go (r := .inl (35, [(3, .inl ((i : Int), (i : Int))), (0, .inr (.inr (1, 57))), (1, .inl ((1 : Int), (1 : Int))), (2, .inl ((n : Int), (n : Int)))], [.inl ((i : Int), (i : Int))], (W.set 62 (.inr (0, xtl 4 (xup (fun _ => -9) 1 (n : Int))))).set 63 (.inr (0, xtl 160 (xfil (fun _ => 0) 32 40 i))), 0, 0)) xf169_34 rfl ?_
    refine hP.go (r := .inl (37, [(3, .inl ((i : Int), (i : Int))), (0, .inr (.inr (1, 57))), (1, .inl ((1 : Int), (1 : Int))), (2, .inl ((n : Int), (n : Int)))], [.inl ((40 : Int), (40 : Int)), .inl ((i : Int), (i : Int))], (W.set 62 (.inr (0, xtl 4 (xup (fun _ => -9) 1 (n : Int))))).set 63 (.inr (0, xtl 160 (xfil (fun _ => 0) 32 40 i))), 0, 0)) xf169_35 rfl ?_
    refine hP.go (r := .inl (40, [(3, .inl ((i : Int), (i : Int))), (0, .inr (.inr (1, 57))), (1, .inl ((1 : Int), (1 : Int))), (2, .inl ((n : Int), (n : Int)))], [], (W.set 62 (.inr (0, xtl 4 (xup (fun _ => -9) 1 (n : Int))))).set 63 (.inr (0, xtl 160 (xfil (fun _ => 0) 32 40 i))), 0, 0)) xf169_37 (sx_icmp (o := false) (xge_of.trans (by simp <;> omega))) ?_
    refine hP.go (r := .inl (41, [(3, .inl ((i : Int), (i : Int))), (0, .inr (.inr (1, 57))), (1, .inl ((1 : Int), (1 : Int))), (2, .inl ((n : Int), (n : Int)))], [.inr (.inr (1, 57))], (W.set 62 (.inr (0, xtl 4 (xup (fun _ => -9) 1 (n : Int))))).set 63 (.inr (0, xtl 160 (xfil (fun _ => 0) 32 40 i))), 0, 0)) xf169_40 rfl ?_
    refine hP.go (r := .inl (44, [(3, .inl ((i : Int), (i : Int))), (0, .inr (.inr (1, 57))), (1, .inl ((1 : Int), (1 : Int))), (2, .inl ((n : Int), (n : Int)))], [.inr (.inr (1, 63))], (W.set 62 (.inr (0, xtl 4 (xup (fun _ => -9) 1 (n : Int))))).set 63 (.inr (0, xtl 160 (xfil (fun _ => 0) 32 40 i))), 0, 0)) xf169_41 (sx_get g57 rfl) ?_
    refine hP.go (r := .inl (46, [(3, .inl ((i : Int), (i : Int))), (0, .inr (.inr (1, 57))), (1, .inl ((1 : Int), (1 : Int))), (2, .inl ((n : Int), (n : Int)))], [.inl ((40 : Int), (40 : Int)), .inr (.inr (1, 63))], (W.set 62 (.inr (0, xtl 4 (xup (fun _ => -9) 1 (n : Int))))).set 63 (.inr (0, xtl 160 (xfil (fun _ => 0) 32 40 i))), 0, 0)) xf169_44 rfl ?_
    refine hP.go (r := .inl (47, [(3, .inl ((i : Int), (i : Int))), (0, .inr (.inr (1, 57))), (1, .inl ((1 : Int), (1 : Int))), (2, .inl ((n : Int), (n : Int)))], [.inl ((1 : Int), (1 : Int)), .inl ((40 : Int), (40 : Int)), .inr (.inr (1, 63))], (W.set 62 (.inr (0, xtl 4 (xup (fun _ => -9) 1 (n : Int))))).set 63 (.inr (0, xtl 160 (xfil (fun _ => 0) 32 40 i))), 0, 0)) xf169_46 rfl ?_
    refine hP.go (r := .inl (48, [(3, .inl ((i : Int), (i : Int))), (0, .inr (.inr (1, 57))), (1, .inl ((1 : Int), (1 : Int))), (2, .inl ((n : Int), (n : Int)))], [.inl ((40 : Int), (40 : Int)), .inr (.inr (1, 63))], (W.set 62 (.inr (0, xtl 4 (xup (fun _ => -9) 1 (n : Int))))).set 63 (.inr (0, xtl 160 (xfil (fun _ => 0) 32 40 i))), 0, 0)) xf169_47 (sx_imul (by decide +kernel)) ?_
    refine hP.go (r := .inl (49, [(3, .inl ((i : Int), (i : Int))), (0, .inr (.inr (1, 57))), (1, .inl ((1 : Int), (1 : Int))), (2, .inl ((n : Int), (n : Int)))], [.inl ((i : Int), (i : Int)), .inl ((40 : Int), (40 : Int)), .inr (.inr (1, 63))], (W.set 62 (.inr (0, xtl 4 (xup (fun _ => -9) 1 (n : Int))))).set 63 (.inr (0, xtl 160 (xfil (fun _ => 0) 32 40 i))), 0, 0)) xf169_48 rfl ?_
    refine hP.go (r := .inl (50, [(3, .inl ((i : Int), (i : Int))), (0, .inr (.inr (1, 57))), (1, .inl ((1 : Int), (1 : Int))), (2, .inl ((n : Int), (n : Int)))], [.inl ((40 : Int) + (i : Int), (40 : Int) + (i : Int)), .inr (.inr (1, 63))], (W.set 62 (.inr (0, xtl 4 (xup (fun _ => -9) 1 (n : Int))))).set 63 (.inr (0, xtl 160 (xfil (fun _ => 0) 32 40 i))), 0, 0)) xf169_49 (sx_iadd (by omega)) ?_
    refine hP.go (r := .inl (52, [(3, .inl ((i : Int), (i : Int))), (0, .inr (.inr (1, 57))), (1, .inl ((1 : Int), (1 : Int))), (2, .inl ((n : Int), (n : Int)))], [.inl ((32 : Int), (32 : Int)), .inl ((40 : Int) + (i : Int), (40 : Int) + (i : Int)), .inr (.inr (1, 63))], (W.set 62 (.inr (0, xtl 4 (xup (fun _ => -9) 1 (n : Int))))).set 63 (.inr (0, xtl 160 (xfil (fun _ => 0) 32 40 i))), 0, 0)) xf169_50 rfl ?_
    refine hP.go (r := .inl (53, [(3, .inl ((i : Int), (i : Int))), (0, .inr (.inr (1, 57))), (1, .inl ((1 : Int), (1 : Int))), (2, .inl ((n : Int), (n : Int)))], [], (W.set 62 (.inr (0, xtl 4 (xup (fun _ => -9) 1 (n : Int))))).set 63 (.inr (0, xtl 160 (xup (xfil (fun _ => 0) 32 40 i) (40 + i) 32))), 0, 0)) xf169_52 ((sx_iast g2 (xtl_writez (c := 40 + i) (by omega) (by omega))).trans (by rw [List.set_set])) ?_
    refine hP.go (r := .inl (56, [(3, .inl ((i : Int) + 1, (i : Int) + 1)), (0, .inr (.inr (1, 57))), (1, .inl ((1 : Int), (1 : Int))), (2, .inl ((n : Int), (n : Int)))], [], (W.set 62 (.inr (0, xtl 4 (xup (fun _ => -9) 1 (n : Int))))).set 63 (.inr (0, xtl 160 (xup (xfil (fun _ => 0) 32 40 i) (40 + i) 32))), 0, 0)) xf169_53 (sx_iinc rfl (Nat.le_of_ble_eq_true rfl) (by dsimp only; omega)) ?_
    refine hP.go (r := .inl (34, [(3, .inl ((i : Int) + 1, (i : Int) + 1)), (0, .inr (.inr (1, 57))), (1, .inl ((1 : Int), (1 : Int))), (2, .inl ((n : Int), (n : Int)))], [], (W.set 62 (.inr (0, xtl 4 (xup (fun _ => -9) 1 (n : Int))))).set 63 (.inr (0, xtl 160 (xup (xfil (fun _ => 0) 32 40 i) (40 + i) 32))), 0, 0)) xf169_56 rfl ?_
    have h := ih (i + 1) (by omega)
    rw [show ((i + 1 : Nat) : Int) = (i : Int) + 1 from rfl] at h
    rw [xfil_up]
    exact h
set_option maxRecDepth 100000 in
set_option maxHeartbeats 4000000 in
theorem xo5_1_k {W : XW} (h57 : W[57]? = some xc57) (hsz : W[62]? = some (.inr (0, xtl 4 (fun _ => -9)))) (har : W[63]? = some (.inr (0, xtl 160 (fun _ => 0)))) {n : Nat} (hn : n ≤ 40) : XMet l D vwCl (tysX tA) tA ex (xSTX ++ [xscA]) xSV xNW xNF xTs xm169 [.inr (.inr (1, 57)), .inl (1, 1), .inl ((n : Int), (n : Int))] W (some (.inl ((n : Int), (n : Int)))) ((W.set 62 (.inr (0, xtl 4 (xup (fun _ => -9) 1 (n : Int))))).set 63 (.inr (0, xtl 160 (xfil (fun _ => 0) 32 40 40)))) := by
  have hl : 63 < W.length := (List.getElem?_eq_some_iff.mp har).1
  refine xmet_ofK x_good (x_tysX tA) (x_tysY tA) (x_tysC tA) x_ok (fun j N as w ro w' => xcf_met j N as w ro w') (j := 169) (w2 := (W.set 62 (.inr (0, xtl 4 (xup (fun _ => -9) 1 (n : Int))))).set 63 (.inr (0, xtl 160 (xfil (fun _ => 0) 32 40 40)))) (k2 := 0) (n2 := 0) rfl (Nat.le_of_ble_eq_true rfl) ⟨Nat.le_refl _, Nat.le_refl _⟩ (Or.inr rfl) (fun P hP hF => ?_)
  show P (.inl (0, [(0, .inr (.inr (1, 57))), (1, .inl ((1 : Int), (1 : Int))), (2, .inl ((n : Int), (n : Int)))], [], W, 0, 0))
  refine hP.go (r := .inl (1, [(0, .inr (.inr (1, 57))), (1, .inl ((1 : Int), (1 : Int))), (2, .inl ((n : Int), (n : Int)))], [.inl ((1 : Int), (1 : Int))], W, 0, 0)) xf169_0 rfl ?_
  refine hP.go (r := .inl (4, [(0, .inr (.inr (1, 57))), (1, .inl ((1 : Int), (1 : Int))), (2, .inl ((n : Int), (n : Int)))], [.inl ((1 : Int), (1 : Int))], W, 0, 0)) xf169_1 (sx_calls (N := xm170) (ro := some (.inl ((1 : Int), (1 : Int)))) (w' := W) (k := 0) (n := 0) (by decide) rfl (Nat.le_of_ble_eq_true rfl) (Nat.le_of_ble_eq_true rfl) (Nat.le_of_ble_eq_true rfl) (Nat.le_of_ble_eq_true rfl) (Nat.le_of_ble_eq_true rfl) (Nat.le_of_ble_eq_true rfl) (xo5_1_i)) ?_
  refine hP.go (r := .inl (7, [(0, .inr (.inr (1, 57))), (1, .inl ((1 : Int), (1 : Int))), (2, .inl ((n : Int), (n : Int)))], [], W, 0, 0)) xf169_4 (sx_if (o := false) rfl) ?_
  refine hP.go (r := .inl (8, [(0, .inr (.inr (1, 57))), (1, .inl ((1 : Int), (1 : Int))), (2, .inl ((n : Int), (n : Int)))], [.inl ((n : Int), (n : Int))], W, 0, 0)) xf169_7 rfl ?_
  refine hP.go (r := .inl (10, [(0, .inr (.inr (1, 57))), (1, .inl ((1 : Int), (1 : Int))), (2, .inl ((n : Int), (n : Int)))], [.inl ((40 : Int), (40 : Int)), .inl ((n : Int), (n : Int))], W, 0, 0)) xf169_8 rfl ?_
  refine hP.go (r := .inl (15, [(0, .inr (.inr (1, 57))), (1, .inl ((1 : Int), (1 : Int))), (2, .inl ((n : Int), (n : Int)))], [], W, 0, 0)) xf169_10 (sx_icmp (o := true) (xcle_of.trans (by simp <;> omega))) ?_
  refine hP.go (r := .inl (16, [(0, .inr (.inr (1, 57))), (1, .inl ((1 : Int), (1 : Int))), (2, .inl ((n : Int), (n : Int)))], [.inl ((n : Int), (n : Int))], W, 0, 0)) xf169_15 rfl ?_
  refine hP.go (r := .inl (25, [(0, .inr (.inr (1, 57))), (1, .inl ((1 : Int), (1 : Int))), (2, .inl ((n : Int), (n : Int)))], [], W, 0, 0)) xf169_16 (sx_if (o := true) (xge_of.trans (by simp <;> omega))) ?_
  refine hP.go (r := .inl (26, [(0, .inr (.inr (1, 57))), (1, .inl ((1 : Int), (1 : Int))), (2, .inl ((n : Int), (n : Int)))], [.inr (.inr (1, 57))], W, 0, 0)) xf169_25 rfl ?_
  refine hP.go (r := .inl (29, [(0, .inr (.inr (1, 57))), (1, .inl ((1 : Int), (1 : Int))), (2, .inl ((n : Int), (n : Int)))], [.inr (.inr (1, 62))], W, 0, 0)) xf169_26 (sx_get h57 rfl) ?_
  refine hP.go (r := .inl (30, [(0, .inr (.inr (1, 57))), (1, .inl ((1 : Int), (1 : Int))), (2, .inl ((n : Int), (n : Int)))], [.inl ((1 : Int), (1 : Int)), .inr (.inr (1, 62))], W, 0, 0)) xf169_29 rfl ?_
  refine hP.go (r := .inl (31, [(0, .inr (.inr (1, 57))), (1, .inl ((1 : Int), (1 : Int))), (2, .inl ((n : Int), (n : Int)))], [.inl ((n : Int), (n : Int)), .inl ((1 : Int), (1 : Int)), .inr (.inr (1, 62))], W, 0, 0)) xf169_30 rfl ?_
  refine hP.go (r := .inl (32, [(0, .inr (.inr (1, 57))), (1, .inl ((1 : Int), (1 : Int))), (2, .inl ((n : Int), (n : Int)))], [], (W.set 62 (.inr (0, xtl 4 (xup (fun _ => -9) 1 (n : Int))))), 0, 0)) xf169_31 (sx_iast hsz (xtl_writez (c := 1) rfl (by decide))) ?_
  refine hP.go (r := .inl (33, [(0, .inr (.inr (1, 57))), (1, .inl ((1 : Int), (1 : Int))), (2, .inl ((n : Int), (n : Int)))], [.inl ((0 : Int), (0 : Int))], (W.set 62 (.inr (0, xtl 4 (xup (fun _ => -9) 1 (n : Int))))), 0, 0)) xf169_32 rfl ?_
  refine hP.go (r := .inl (34, [(3, .inl ((0 : Int), (0 : Int))), (0, .inr (.inr (1, 57))), (1, .inl ((1 : Int), (1 : Int))), (2, .inl ((n : Int), (n : Int)))], [], (W.set 62 (.inr (0, xtl 4 (xup (fun _ => -9) 1 (n : Int))))), 0, 0)) xf169_33 rfl ?_
  have h := xo5_1_l hP h57 hl hn hF 40 0 (Nat.zero_add _)
  rw [xfil_0] at h
  have e : (W.set 62 (.inr (0, xtl 4 (xup (fun _ => -9) 1 (n : Int))))).set 63 (.inr (0, xtl 160 (fun _ => 0))) = (W.set 62 (.inr (0, xtl 4 (xup (fun _ => -9) 1 (n : Int))))) := by
    have e1 : (W.set 62 (.inr (0, xtl 4 (xup (fun _ => -9) 1 (n : Int)))))[63]? = some (.inr (0, xtl 160 (fun _ => 0))) := xset_get (by decide) har
    obtain ⟨h1, e2⟩ := List.getElem?_eq_some_iff.mp e1
    rw [← e2]
    exact List.set_getElem_self h1
  rw [e] at h
  exact h
end XRW
def xo5_2_s : XW := [.inl (9, [.inr (.inr (1, 1)), .inr (.inr (1, 2)), .inr (.inr (1, 3)), .inr (.inr (1, 11)), .inr (.inr (1, 12)), .inr (.inr (1, 13)), .inr (.inr (1, 14)), .inr (.inr (1, 16)), .inr (.inr (1, 19)), .inr (.inr (1, 24)), xi 0, xi 0, xi 0, xi 1, xi 0, xi 0, .inr (.inl (some 0)), .inr (.inl (some 0)), .inr (.inl (some 1))]), xhd, .inr (3, [.inr (.inr (1, 37)), .inr (.inr (1, 39)), .inr (.inr (1, 41)), .inr (.inr (1, 43))])]
theorem xo5_2_m : xmrg xo5_2_s xw0 = xw0 := @of_decide_eq_true _ (xd5 _ _) (show @decide _ (xd5 (xmrg xo5_2_s xw0) xw0) = true by decide +kernel)
theorem xo5_2_a : xcf 20 xscA 20 [.inr (.inr (1, 0)), .inl (2, 2)] xw0 = some (some (.inr (.inr (1, 41))), xw0) := by
  have h := xcf_mrg xw0 (N := xm20) rfl rfl (@of_decide_eq_true _ (xd11 _ _) (show @decide _ (xd11 (xcf 20 xscA 20 [.inr (.inr (1, 0)), .inl (2, 2)] xo5_2_s) (some (some (.inr (.inr (1, 41))), xo5_2_s))) = true by decide +kernel))
  rw [xo5_2_m] at h
  exact h
theorem xo5_2_q : xw0[41]? = some (.inl (4, [.inr (.inr (1, 41 + 1)), .inl (-1, -1)])) := rfl
theorem xo5_2_p : xw0[41 + 1]? = some (.inr (0, xtl 40 (fun _ => 0))) := @of_decide_eq_true _ (xd10 _ _) (show @decide _ (xd10 (xw0[41 + 1]?) (some (.inr (0, xtl 40 (fun _ => 0))))) = true by decide +kernel)
abbrev xo5_2_w (n : Nat) : XW := (xw0.set 41 (.inl (4, [.inr (.inr (1, 41 + 1)), .inl ((n : Int), (n : Int))]))).set (41 + 1) (.inr (0, xtl 40 (xfil (fun _ => 0) 32 0 n)))
section XRW
variable {l : Launch} {D : va_G} {tA : Nat → ClassId} {ex : List Nat}
set_option maxRecDepth 100000 in
set_option maxHeartbeats 4000000 in
theorem xo5_2_c {n : Nat} (hn : n ≤ 40) : XMet l D vwCl (tysX tA) tA ex (xSTX ++ [xscA]) xSV xNW xNF xTs xm19 [.inr (.inr (1, 0)), .inl (2, 2), .inl ((n : Int), (n : Int))] xw0 (some (.inl ((n : Int), (n : Int)))) (xo5_2_w n) := by
  refine xmet_ofK x_good (x_tysX tA) (x_tysY tA) (x_tysC tA) x_ok (fun j N as w ro w' => xcf_met j N as w ro w') (j := 19) (w2 := xo5_2_w n) (k2 := 0) (n2 := 0) rfl (Nat.le_of_ble_eq_true rfl) ⟨Nat.le_refl _, Nat.le_refl _⟩ (Or.inr rfl) (fun P hP hF => ?_)
  show P (.inl (0, [(0, .inr (.inr (1, 0))), (1, .inl ((2 : Int), (2 : Int))), (2, .inl ((n : Int), (n : Int)))], [], xw0, 0, 0))
  refine hP.go (r := .inl (1, [(0, .inr (.inr (1, 0))), (1, .inl ((2 : Int), (2 : Int))), (2, .inl ((n : Int), (n : Int)))], [.inr (.inr (1, 0))], xw0, 0, 0)) xf19_0 rfl ?_
  refine hP.go (r := .inl (2, [(0, .inr (.inr (1, 0))), (1, .inl ((2 : Int), (2 : Int))), (2, .inl ((n : Int), (n : Int)))], [.inl ((2 : Int), (2 : Int)), .inr (.inr (1, 0))], xw0, 0, 0)) xf19_1 rfl ?_
  refine hP.go (r := .inl (5, [(0, .inr (.inr (1, 0))), (1, .inl ((2 : Int), (2 : Int))), (2, .inl ((n : Int), (n : Int)))], [.inr (.inr (1, 41))], xw0, 0, 0)) xf19_2 (sx_callv (N := xm20) (ro := some (.inr (.inr (1, 41)))) (w' := xw0) (k := 0) (n := 0) rfl (Nat.le_of_ble_eq_true rfl) (Nat.le_of_ble_eq_true rfl) (Nat.le_of_ble_eq_true rfl) (Nat.le_of_ble_eq_true rfl) (Nat.le_of_ble_eq_true rfl) (Nat.le_of_ble_eq_true rfl) (xrecv_of xw0_0) (xo5_2_a)) ?_
  refine hP.go (r := .inl (6, [(3, .inr (.inr (1, 41))), (0, .inr (.inr (1, 0))), (1, .inl ((2 : Int), (2 : Int))), (2, .inl ((n : Int), (n : Int)))], [], xw0, 0, 0)) xf19_5 rfl ?_
  refine hP.go (r := .inl (7, [(3, .inr (.inr (1, 41))), (0, .inr (.inr (1, 0))), (1, .inl ((2 : Int), (2 : Int))), (2, .inl ((n : Int), (n : Int)))], [.inr (.inr (1, 41))], xw0, 0, 0)) xf19_6 rfl ?_
  refine hP.go (r := .inl (10, [(3, .inr (.inr (1, 41))), (0, .inr (.inr (1, 0))), (1, .inl ((2 : Int), (2 : Int))), (2, .inl ((n : Int), (n : Int)))], [], xw0, 0, 0)) xf19_7 rfl ?_
  refine hP.go (r := .inl (11, [(3, .inr (.inr (1, 41))), (0, .inr (.inr (1, 0))), (1, .inl ((2 : Int), (2 : Int))), (2, .inl ((n : Int), (n : Int)))], [.inl ((n : Int), (n : Int))], xw0, 0, 0)) xf19_10 rfl ?_
  refine hP.go (r := .inl (13, [(3, .inr (.inr (1, 41))), (0, .inr (.inr (1, 0))), (1, .inl ((2 : Int), (2 : Int))), (2, .inl ((n : Int), (n : Int)))], [.inl ((40 : Int), (40 : Int)), .inl ((n : Int), (n : Int))], xw0, 0, 0)) xf19_11 rfl ?_
  refine hP.go (r := .inl (18, [(3, .inr (.inr (1, 41))), (0, .inr (.inr (1, 0))), (1, .inl ((2 : Int), (2 : Int))), (2, .inl ((n : Int), (n : Int)))], [], xw0, 0, 0)) xf19_13 (sx_icmp (o := true) (xcle_of.trans (by simp <;> omega))) ?_
  refine hP.go (r := .inl (19, [(3, .inr (.inr (1, 41))), (0, .inr (.inr (1, 0))), (1, .inl ((2 : Int), (2 : Int))), (2, .inl ((n : Int), (n : Int)))], [.inl ((n : Int), (n : Int))], xw0, 0, 0)) xf19_18 rfl ?_
  refine hP.go (r := .inl (28, [(3, .inr (.inr (1, 41))), (0, .inr (.inr (1, 0))), (1, .inl ((2 : Int), (2 : Int))), (2, .inl ((n : Int), (n : Int)))], [], xw0, 0, 0)) xf19_19 (sx_if (o := true) (xge_of.trans (by simp <;> omega))) ?_
  refine hP.go (r := .inl (29, [(3, .inr (.inr (1, 41))), (0, .inr (.inr (1, 0))), (1, .inl ((2 : Int), (2 : Int))), (2, .inl ((n : Int), (n : Int)))], [.inr (.inr (1, 41))], xw0, 0, 0)) xf19_28 rfl ?_
  refine hP.go (r := .inl (30, [(3, .inr (.inr (1, 41))), (0, .inr (.inr (1, 0))), (1, .inl ((2 : Int), (2 : Int))), (2, .inl ((n : Int), (n : Int)))], [.inl ((n : Int), (n : Int)), .inr (.inr (1, 41))], xw0, 0, 0)) xf19_29 rfl ?_
  refine hP.go (r := .inl (32, [(3, .inr (.inr (1, 41))), (0, .inr (.inr (1, 0))), (1, .inl ((2 : Int), (2 : Int))), (2, .inl ((n : Int), (n : Int)))], [.inl ((32 : Int), (32 : Int)), .inl ((n : Int), (n : Int)), .inr (.inr (1, 41))], xw0, 0, 0)) xf19_30 rfl ?_
  refine hP.2.2.1 _ (35, [(3, .inr (.inr (1, 41))), (0, .inr (.inr (1, 0))), (1, .inl ((2 : Int), (2 : Int))), (2, .inl ((n : Int), (n : Int)))], [], xo5_2_w n, 0, 0) ⟨.invokevirtual 86, 11, 3, 0, xm11, none, xo5_2_w n, xf19_32, rfl, xba_met (q := 41) xo5_2_q xo5_2_p hn, fun cf hc => sx_callv (N := xm11) rfl (Nat.le_of_ble_eq_true rfl) (Nat.le_of_ble_eq_true rfl) (Nat.le_of_ble_eq_true rfl) (Nat.le_of_ble_eq_true rfl) (Nat.le_of_ble_eq_true rfl) (Nat.le_of_ble_eq_true rfl) (xrecv_of xo5_2_q) hc⟩ ?_
  refine hP.go (r := .inl (36, [(3, .inr (.inr (1, 41))), (0, .inr (.inr (1, 0))), (1, .inl ((2 : Int), (2 : Int))), (2, .inl ((n : Int), (n : Int)))], [.inl ((n : Int), (n : Int))], xo5_2_w n, 0, 0)) xf19_35 rfl ?_
  exact hP.go (r := .inr (some (.inl ((n : Int), (n : Int))), xo5_2_w n, 0, 0)) xf19_36 rfl hF
theorem xo5_2_i {W : XW} : xcf 20 xscA 170 [.inl (2, 2)] W = some (some (.inl (1, 1)), W) := xcf_mrg W (w := []) (w' := []) (N := xm170) rfl rfl (@of_decide_eq_true _ (xd11 _ _) (show @decide _ (xd11 (xcf 20 xscA 170 [.inl (2, 2)] []) (some (some (.inl (1, 1)), []))) = true by decide +kernel))
set_option maxRecDepth 100000 in
set_option maxHeartbeats 4000000 in
theorem xo5_2_l {P : XR → Prop} (hP : XCl (xSt xscA xm169) (xJm l D tA ex xscA xm169) P) {W : XW} (h57 : W[57]? = some xc57) (hl : 63 < W.length) {n : Nat} (hn : n ≤ 40) (hF : P (.inr (some (.inl ((n : Int), (n : Int))), (W.set 62 (.inr (0, xtl 4 (xup (fun _ => -9) 2 (n : Int))))).set 63 (.inr (0, xtl 160 (xfil (fun _ => 0) 32 80 40))), 0, 0))) : ∀ (d i : Nat), i + d = 40 → P (.inl (34, [(3, .inl ((i : Int), (i : Int))), (0, .inr (.inr (1, 57))), (1, .inl ((2 : Int), (2 : Int))), (2, .inl ((n : Int), (n : Int)))], [], (W.set 62 (.inr (0, xtl 4 (xup (fun _ => -9) 2 (n : Int))))).set 63 (.inr (0, xtl 160 (xfil (fun _ => 0) 32 80 i))), 0, 0)) := fun d => by
  induction d with
  | zero =>
    intro i hi
    refine hP.go (r := .inl (35, [(3, .inl ((i : Int), (i : Int))), (0, .inr (.inr (1, 57))), (1, .inl ((2 : Int), (2 : Int))), (2, .inl ((n : Int), (n : Int)))], [.inl ((i : Int), (i : Int))], (W.set 62 (.inr (0, xtl 4 (xup (fun _ => -9) 2 (n : Int))))).set 63 (.inr (0, xtl 160 (xfil (fun _ => 0) 32 80 i))), 0, 0)) xf169_34 rfl ?_
    refine hP.go (r := .inl (37, [(3, .inl ((i : Int), (i : Int))), (0, .inr (.inr (1, 57))), (1, .inl ((2 : Int), (2 : Int))), (2, .inl ((n : Int), (n : Int)))], [.inl ((40 : Int), (40 : Int)), .inl ((i : Int), (i : Int))], (W.set 62 (.inr (0, xtl 4 (xup (fun _ => -9) 2 (n : Int))))).set 63 (.inr (0, xtl 160 (xfil (fun _ => 0) 32 80 i))), 0, 0)) xf169_35 rfl ?_
    refine hP.go (r := .inl (59, [(3, .inl ((i : Int), (i : Int))), (0, .inr (.inr (1, 57))), (1, .inl ((2 : Int), (2 : Int))), (2, .inl ((n : Int), (n : Int)))], [], (W.set 62 (.inr (0, xtl 4 (xup (fun _ => -9) 2 (n : Int))))).set 63 (.inr (0, xtl 160 (xfil (fun _ => 0) 32 80 i))), 0, 0)) xf169_37 (sx_icmp (o := true) (xge_of.trans (by simp <;> omega))) ?_
    refine hP.go (r := .inl (60, [(3, .inl ((i : Int), (i : Int))), (0, .inr (.inr (1, 57))), (1, .inl ((2 : Int), (2 : Int))), (2, .inl ((n : Int), (n : Int)))], [.inl ((n : Int), (n : Int))], (W.set 62 (.inr (0, xtl 4 (xup (fun _ => -9) 2 (n : Int))))).set 63 (.inr (0, xtl 160 (xfil (fun _ => 0) 32 80 i))), 0, 0)) xf169_59 rfl ?_
    have e : i = 40 := by omega
    subst e
    exact hP.go (r := .inr (some (.inl ((n : Int), (n : Int))), (W.set 62 (.inr (0, xtl 4 (xup (fun _ => -9) 2 (n : Int))))).set 63 (.inr (0, xtl 160 (xfil (fun _ => 0) 32 80 40))), 0, 0)) xf169_60 rfl hF
  | succ d ih =>
    intro i hi
    have g57 : ((W.set 62 (.inr (0, xtl 4 (xup (fun _ => -9) 2 (n : Int))))).set 63 (.inr (0, xtl 160 (xfil (fun _ => 0) 32 80 i))))[57]? = some xc57 := xset_get (by decide) (xset_get (by decide) h57)
    have g2 : ((W.set 62 (.inr (0, xtl 4 (xup (fun _ => -9) 2 (n : Int))))).set 63 (.inr (0, xtl 160 (xfil (fun _ => 0) 32 80 i))))[63]? = some (.inr (0, xtl 160 (xfil (fun _ => 0) 32 80 i))) := xset_at (by rw [List.length_set]; exact hl)
    refine hP.go (r := .inl (35, [(3, .inl ((i : Int), (i : Int))), (0, .inr (.inr (1, 57))), (1, .inl ((2 : Int), (2 : Int))), (2, .inl ((n : Int), (n : Int)))], [.inl ((i : Int), (i : Int))], (W.set 62 (.inr (0, xtl 4 (xup (fun _ => -9) 2 (n : Int))))).set 63 (.inr (0, xtl 160 (xfil (fun _ => 0) 32 80 i))), 0, 0)) xf169_34 rfl ?_
    refine hP.go (r := .inl (37, [(3, .inl ((i : Int), (i : Int))), (0, .inr (.inr (1, 57))), (1, .inl ((2 : Int), (2 : Int))), (2, .inl ((n : Int), (n : Int)))], [.inl ((40 : Int), (40 : Int)), .inl ((i : Int), (i : Int))], (W.set 62 (.inr (0, xtl 4 (xup (fun _ => -9) 2 (n : Int))))).set 63 (.inr (0, xtl 160 (xfil (fun _ => 0) 32 80 i))), 0, 0)) xf169_35 rfl ?_
    refine hP.go (r := .inl (40, [(3, .inl ((i : Int), (i : Int))), (0, .inr (.inr (1, 57))), (1, .inl ((2 : Int), (2 : Int))), (2, .inl ((n : Int), (n : Int)))], [], (W.set 62 (.inr (0, xtl 4 (xup (fun _ => -9) 2 (n : Int))))).set 63 (.inr (0, xtl 160 (xfil (fun _ => 0) 32 80 i))), 0, 0)) xf169_37 (sx_icmp (o := false) (xge_of.trans (by simp <;> omega))) ?_
    refine hP.go (r := .inl (41, [(3, .inl ((i : Int), (i : Int))), (0, .inr (.inr (1, 57))), (1, .inl ((2 : Int), (2 : Int))), (2, .inl ((n : Int), (n : Int)))], [.inr (.inr (1, 57))], (W.set 62 (.inr (0, xtl 4 (xup (fun _ => -9) 2 (n : Int))))).set 63 (.inr (0, xtl 160 (xfil (fun _ => 0) 32 80 i))), 0, 0)) xf169_40 rfl ?_
    refine hP.go (r := .inl (44, [(3, .inl ((i : Int), (i : Int))), (0, .inr (.inr (1, 57))), (1, .inl ((2 : Int), (2 : Int))), (2, .inl ((n : Int), (n : Int)))], [.inr (.inr (1, 63))], (W.set 62 (.inr (0, xtl 4 (xup (fun _ => -9) 2 (n : Int))))).set 63 (.inr (0, xtl 160 (xfil (fun _ => 0) 32 80 i))), 0, 0)) xf169_41 (sx_get g57 rfl) ?_
    refine hP.go (r := .inl (46, [(3, .inl ((i : Int), (i : Int))), (0, .inr (.inr (1, 57))), (1, .inl ((2 : Int), (2 : Int))), (2, .inl ((n : Int), (n : Int)))], [.inl ((40 : Int), (40 : Int)), .inr (.inr (1, 63))], (W.set 62 (.inr (0, xtl 4 (xup (fun _ => -9) 2 (n : Int))))).set 63 (.inr (0, xtl 160 (xfil (fun _ => 0) 32 80 i))), 0, 0)) xf169_44 rfl ?_
    refine hP.go (r := .inl (47, [(3, .inl ((i : Int), (i : Int))), (0, .inr (.inr (1, 57))), (1, .inl ((2 : Int), (2 : Int))), (2, .inl ((n : Int), (n : Int)))], [.inl ((2 : Int), (2 : Int)), .inl ((40 : Int), (40 : Int)), .inr (.inr (1, 63))], (W.set 62 (.inr (0, xtl 4 (xup (fun _ => -9) 2 (n : Int))))).set 63 (.inr (0, xtl 160 (xfil (fun _ => 0) 32 80 i))), 0, 0)) xf169_46 rfl ?_
    refine hP.go (r := .inl (48, [(3, .inl ((i : Int), (i : Int))), (0, .inr (.inr (1, 57))), (1, .inl ((2 : Int), (2 : Int))), (2, .inl ((n : Int), (n : Int)))], [.inl ((80 : Int), (80 : Int)), .inr (.inr (1, 63))], (W.set 62 (.inr (0, xtl 4 (xup (fun _ => -9) 2 (n : Int))))).set 63 (.inr (0, xtl 160 (xfil (fun _ => 0) 32 80 i))), 0, 0)) xf169_47 (sx_imul (by decide +kernel)) ?_
    refine hP.go (r := .inl (49, [(3, .inl ((i : Int), (i : Int))), (0, .inr (.inr (1, 57))), (1, .inl ((2 : Int), (2 : Int))), (2, .inl ((n : Int), (n : Int)))], [.inl ((i : Int), (i : Int)), .inl ((80 : Int), (80 : Int)), .inr (.inr (1, 63))], (W.set 62 (.inr (0, xtl 4 (xup (fun _ => -9) 2 (n : Int))))).set 63 (.inr (0, xtl 160 (xfil (fun _ => 0) 32 80 i))), 0, 0)) xf169_48 rfl ?_
    refine hP.go (r := .inl (50, [(3, .inl ((i : Int), (i : Int))), (0, .inr (.inr (1, 57))), (1, .inl ((2 : Int), (2 : Int))), (2, .inl ((n : Int), (n : Int)))], [.inl ((80 : Int) + (i : Int), (80 : Int) + (i : Int)), .inr (.inr (1, 63))], (W.set 62 (.inr (0, xtl 4 (xup (fun _ => -9) 2 (n : Int))))).set 63 (.inr (0, xtl 160 (xfil (fun _ => 0) 32 80 i))), 0, 0)) xf169_49 (sx_iadd (by omega)) ?_
    refine hP.go (r := .inl (52, [(3, .inl ((i : Int), (i : Int))), (0, .inr (.inr (1, 57))), (1, .inl ((2 : Int), (2 : Int))), (2, .inl ((n : Int), (n : Int)))], [.inl ((32 : Int), (32 : Int)), .inl ((80 : Int) + (i : Int), (80 : Int) + (i : Int)), .inr (.inr (1, 63))], (W.set 62 (.inr (0, xtl 4 (xup (fun _ => -9) 2 (n : Int))))).set 63 (.inr (0, xtl 160 (xfil (fun _ => 0) 32 80 i))), 0, 0)) xf169_50 rfl ?_
    refine hP.go (r := .inl (53, [(3, .inl ((i : Int), (i : Int))), (0, .inr (.inr (1, 57))), (1, .inl ((2 : Int), (2 : Int))), (2, .inl ((n : Int), (n : Int)))], [], (W.set 62 (.inr (0, xtl 4 (xup (fun _ => -9) 2 (n : Int))))).set 63 (.inr (0, xtl 160 (xup (xfil (fun _ => 0) 32 80 i) (80 + i) 32))), 0, 0)) xf169_52 ((sx_iast g2 (xtl_writez (c := 80 + i) (by omega) (by omega))).trans (by rw [List.set_set])) ?_
    refine hP.go (r := .inl (56, [(3, .inl ((i : Int) + 1, (i : Int) + 1)), (0, .inr (.inr (1, 57))), (1, .inl ((2 : Int), (2 : Int))), (2, .inl ((n : Int), (n : Int)))], [], (W.set 62 (.inr (0, xtl 4 (xup (fun _ => -9) 2 (n : Int))))).set 63 (.inr (0, xtl 160 (xup (xfil (fun _ => 0) 32 80 i) (80 + i) 32))), 0, 0)) xf169_53 (sx_iinc rfl (Nat.le_of_ble_eq_true rfl) (by dsimp only; omega)) ?_
    refine hP.go (r := .inl (34, [(3, .inl ((i : Int) + 1, (i : Int) + 1)), (0, .inr (.inr (1, 57))), (1, .inl ((2 : Int), (2 : Int))), (2, .inl ((n : Int), (n : Int)))], [], (W.set 62 (.inr (0, xtl 4 (xup (fun _ => -9) 2 (n : Int))))).set 63 (.inr (0, xtl 160 (xup (xfil (fun _ => 0) 32 80 i) (80 + i) 32))), 0, 0)) xf169_56 rfl ?_
    have h := ih (i + 1) (by omega)
    rw [show ((i + 1 : Nat) : Int) = (i : Int) + 1 from rfl] at h
    rw [xfil_up]
    exact h
set_option maxRecDepth 100000 in
set_option maxHeartbeats 4000000 in
theorem xo5_2_k {W : XW} (h57 : W[57]? = some xc57) (hsz : W[62]? = some (.inr (0, xtl 4 (fun _ => -9)))) (har : W[63]? = some (.inr (0, xtl 160 (fun _ => 0)))) {n : Nat} (hn : n ≤ 40) : XMet l D vwCl (tysX tA) tA ex (xSTX ++ [xscA]) xSV xNW xNF xTs xm169 [.inr (.inr (1, 57)), .inl (2, 2), .inl ((n : Int), (n : Int))] W (some (.inl ((n : Int), (n : Int)))) ((W.set 62 (.inr (0, xtl 4 (xup (fun _ => -9) 2 (n : Int))))).set 63 (.inr (0, xtl 160 (xfil (fun _ => 0) 32 80 40)))) := by
  have hl : 63 < W.length := (List.getElem?_eq_some_iff.mp har).1
  refine xmet_ofK x_good (x_tysX tA) (x_tysY tA) (x_tysC tA) x_ok (fun j N as w ro w' => xcf_met j N as w ro w') (j := 169) (w2 := (W.set 62 (.inr (0, xtl 4 (xup (fun _ => -9) 2 (n : Int))))).set 63 (.inr (0, xtl 160 (xfil (fun _ => 0) 32 80 40)))) (k2 := 0) (n2 := 0) rfl (Nat.le_of_ble_eq_true rfl) ⟨Nat.le_refl _, Nat.le_refl _⟩ (Or.inr rfl) (fun P hP hF => ?_)
  show P (.inl (0, [(0, .inr (.inr (1, 57))), (1, .inl ((2 : Int), (2 : Int))), (2, .inl ((n : Int), (n : Int)))], [], W, 0, 0))
  refine hP.go (r := .inl (1, [(0, .inr (.inr (1, 57))), (1, .inl ((2 : Int), (2 : Int))), (2, .inl ((n : Int), (n : Int)))], [.inl ((2 : Int), (2 : Int))], W, 0, 0)) xf169_0 rfl ?_
  refine hP.go (r := .inl (4, [(0, .inr (.inr (1, 57))), (1, .inl ((2 : Int), (2 : Int))), (2, .inl ((n : Int), (n : Int)))], [.inl ((1 : Int), (1 : Int))], W, 0, 0)) xf169_1 (sx_calls (N := xm170) (ro := some (.inl ((1 : Int), (1 : Int)))) (w' := W) (k := 0) (n := 0) (by decide) rfl (Nat.le_of_ble_eq_true rfl) (Nat.le_of_ble_eq_true rfl) (Nat.le_of_ble_eq_true rfl) (Nat.le_of_ble_eq_true rfl) (Nat.le_of_ble_eq_true rfl) (Nat.le_of_ble_eq_true rfl) (xo5_2_i)) ?_
  refine hP.go (r := .inl (7, [(0, .inr (.inr (1, 57))), (1, .inl ((2 : Int), (2 : Int))), (2, .inl ((n : Int), (n : Int)))], [], W, 0, 0)) xf169_4 (sx_if (o := false) rfl) ?_
  refine hP.go (r := .inl (8, [(0, .inr (.inr (1, 57))), (1, .inl ((2 : Int), (2 : Int))), (2, .inl ((n : Int), (n : Int)))], [.inl ((n : Int), (n : Int))], W, 0, 0)) xf169_7 rfl ?_
  refine hP.go (r := .inl (10, [(0, .inr (.inr (1, 57))), (1, .inl ((2 : Int), (2 : Int))), (2, .inl ((n : Int), (n : Int)))], [.inl ((40 : Int), (40 : Int)), .inl ((n : Int), (n : Int))], W, 0, 0)) xf169_8 rfl ?_
  refine hP.go (r := .inl (15, [(0, .inr (.inr (1, 57))), (1, .inl ((2 : Int), (2 : Int))), (2, .inl ((n : Int), (n : Int)))], [], W, 0, 0)) xf169_10 (sx_icmp (o := true) (xcle_of.trans (by simp <;> omega))) ?_
  refine hP.go (r := .inl (16, [(0, .inr (.inr (1, 57))), (1, .inl ((2 : Int), (2 : Int))), (2, .inl ((n : Int), (n : Int)))], [.inl ((n : Int), (n : Int))], W, 0, 0)) xf169_15 rfl ?_
  refine hP.go (r := .inl (25, [(0, .inr (.inr (1, 57))), (1, .inl ((2 : Int), (2 : Int))), (2, .inl ((n : Int), (n : Int)))], [], W, 0, 0)) xf169_16 (sx_if (o := true) (xge_of.trans (by simp <;> omega))) ?_
  refine hP.go (r := .inl (26, [(0, .inr (.inr (1, 57))), (1, .inl ((2 : Int), (2 : Int))), (2, .inl ((n : Int), (n : Int)))], [.inr (.inr (1, 57))], W, 0, 0)) xf169_25 rfl ?_
  refine hP.go (r := .inl (29, [(0, .inr (.inr (1, 57))), (1, .inl ((2 : Int), (2 : Int))), (2, .inl ((n : Int), (n : Int)))], [.inr (.inr (1, 62))], W, 0, 0)) xf169_26 (sx_get h57 rfl) ?_
  refine hP.go (r := .inl (30, [(0, .inr (.inr (1, 57))), (1, .inl ((2 : Int), (2 : Int))), (2, .inl ((n : Int), (n : Int)))], [.inl ((2 : Int), (2 : Int)), .inr (.inr (1, 62))], W, 0, 0)) xf169_29 rfl ?_
  refine hP.go (r := .inl (31, [(0, .inr (.inr (1, 57))), (1, .inl ((2 : Int), (2 : Int))), (2, .inl ((n : Int), (n : Int)))], [.inl ((n : Int), (n : Int)), .inl ((2 : Int), (2 : Int)), .inr (.inr (1, 62))], W, 0, 0)) xf169_30 rfl ?_
  refine hP.go (r := .inl (32, [(0, .inr (.inr (1, 57))), (1, .inl ((2 : Int), (2 : Int))), (2, .inl ((n : Int), (n : Int)))], [], (W.set 62 (.inr (0, xtl 4 (xup (fun _ => -9) 2 (n : Int))))), 0, 0)) xf169_31 (sx_iast hsz (xtl_writez (c := 2) rfl (by decide))) ?_
  refine hP.go (r := .inl (33, [(0, .inr (.inr (1, 57))), (1, .inl ((2 : Int), (2 : Int))), (2, .inl ((n : Int), (n : Int)))], [.inl ((0 : Int), (0 : Int))], (W.set 62 (.inr (0, xtl 4 (xup (fun _ => -9) 2 (n : Int))))), 0, 0)) xf169_32 rfl ?_
  refine hP.go (r := .inl (34, [(3, .inl ((0 : Int), (0 : Int))), (0, .inr (.inr (1, 57))), (1, .inl ((2 : Int), (2 : Int))), (2, .inl ((n : Int), (n : Int)))], [], (W.set 62 (.inr (0, xtl 4 (xup (fun _ => -9) 2 (n : Int))))), 0, 0)) xf169_33 rfl ?_
  have h := xo5_2_l hP h57 hl hn hF 40 0 (Nat.zero_add _)
  rw [xfil_0] at h
  have e : (W.set 62 (.inr (0, xtl 4 (xup (fun _ => -9) 2 (n : Int))))).set 63 (.inr (0, xtl 160 (fun _ => 0))) = (W.set 62 (.inr (0, xtl 4 (xup (fun _ => -9) 2 (n : Int))))) := by
    have e1 : (W.set 62 (.inr (0, xtl 4 (xup (fun _ => -9) 2 (n : Int)))))[63]? = some (.inr (0, xtl 160 (fun _ => 0))) := xset_get (by decide) har
    obtain ⟨h1, e2⟩ := List.getElem?_eq_some_iff.mp e1
    rw [← e2]
    exact List.set_getElem_self h1
  rw [e] at h
  exact h
end XRW
def xo5_3_s : XW := [.inl (9, [.inr (.inr (1, 1)), .inr (.inr (1, 2)), .inr (.inr (1, 3)), .inr (.inr (1, 11)), .inr (.inr (1, 12)), .inr (.inr (1, 13)), .inr (.inr (1, 14)), .inr (.inr (1, 16)), .inr (.inr (1, 19)), .inr (.inr (1, 24)), xi 0, xi 0, xi 0, xi 1, xi 0, xi 0, .inr (.inl (some 0)), .inr (.inl (some 0)), .inr (.inl (some 1))]), xhd, .inr (3, [.inr (.inr (1, 37)), .inr (.inr (1, 39)), .inr (.inr (1, 41)), .inr (.inr (1, 43))])]
theorem xo5_3_m : xmrg xo5_3_s xw0 = xw0 := @of_decide_eq_true _ (xd5 _ _) (show @decide _ (xd5 (xmrg xo5_3_s xw0) xw0) = true by decide +kernel)
theorem xo5_3_a : xcf 20 xscA 20 [.inr (.inr (1, 0)), .inl (3, 3)] xw0 = some (some (.inr (.inr (1, 43))), xw0) := by
  have h := xcf_mrg xw0 (N := xm20) rfl rfl (@of_decide_eq_true _ (xd11 _ _) (show @decide _ (xd11 (xcf 20 xscA 20 [.inr (.inr (1, 0)), .inl (3, 3)] xo5_3_s) (some (some (.inr (.inr (1, 43))), xo5_3_s))) = true by decide +kernel))
  rw [xo5_3_m] at h
  exact h
theorem xo5_3_q : xw0[43]? = some (.inl (4, [.inr (.inr (1, 43 + 1)), .inl (-1, -1)])) := rfl
theorem xo5_3_p : xw0[43 + 1]? = some (.inr (0, xtl 40 (fun _ => 0))) := @of_decide_eq_true _ (xd10 _ _) (show @decide _ (xd10 (xw0[43 + 1]?) (some (.inr (0, xtl 40 (fun _ => 0))))) = true by decide +kernel)
abbrev xo5_3_w (n : Nat) : XW := (xw0.set 43 (.inl (4, [.inr (.inr (1, 43 + 1)), .inl ((n : Int), (n : Int))]))).set (43 + 1) (.inr (0, xtl 40 (xfil (fun _ => 0) 32 0 n)))
section XRW
variable {l : Launch} {D : va_G} {tA : Nat → ClassId} {ex : List Nat}
set_option maxRecDepth 100000 in
set_option maxHeartbeats 4000000 in
theorem xo5_3_c {n : Nat} (hn : n ≤ 40) : XMet l D vwCl (tysX tA) tA ex (xSTX ++ [xscA]) xSV xNW xNF xTs xm19 [.inr (.inr (1, 0)), .inl (3, 3), .inl ((n : Int), (n : Int))] xw0 (some (.inl ((n : Int), (n : Int)))) (xo5_3_w n) := by
  refine xmet_ofK x_good (x_tysX tA) (x_tysY tA) (x_tysC tA) x_ok (fun j N as w ro w' => xcf_met j N as w ro w') (j := 19) (w2 := xo5_3_w n) (k2 := 0) (n2 := 0) rfl (Nat.le_of_ble_eq_true rfl) ⟨Nat.le_refl _, Nat.le_refl _⟩ (Or.inr rfl) (fun P hP hF => ?_)
  show P (.inl (0, [(0, .inr (.inr (1, 0))), (1, .inl ((3 : Int), (3 : Int))), (2, .inl ((n : Int), (n : Int)))], [], xw0, 0, 0))
  refine hP.go (r := .inl (1, [(0, .inr (.inr (1, 0))), (1, .inl ((3 : Int), (3 : Int))), (2, .inl ((n : Int), (n : Int)))], [.inr (.inr (1, 0))], xw0, 0, 0)) xf19_0 rfl ?_
  refine hP.go (r := .inl (2, [(0, .inr (.inr (1, 0))), (1, .inl ((3 : Int), (3 : Int))), (2, .inl ((n : Int), (n : Int)))], [.inl ((3 : Int), (3 : Int)), .inr (.inr (1, 0))], xw0, 0, 0)) xf19_1 rfl ?_
  refine hP.go (r := .inl (5, [(0, .inr (.inr (1, 0))), (1, .inl ((3 : Int), (3 : Int))), (2, .inl ((n : Int), (n : Int)))], [.inr (.inr (1, 43))], xw0, 0, 0)) xf19_2 (sx_callv (N := xm20) (ro := some (.inr (.inr (1, 43)))) (w' := xw0) (k := 0) (n := 0) rfl (Nat.le_of_ble_eq_true rfl) (Nat.le_of_ble_eq_true rfl) (Nat.le_of_ble_eq_true rfl) (Nat.le_of_ble_eq_true rfl) (Nat.le_of_ble_eq_true rfl) (Nat.le_of_ble_eq_true rfl) (xrecv_of xw0_0) (xo5_3_a)) ?_
  refine hP.go (r := .inl (6, [(3, .inr (.inr (1, 43))), (0, .inr (.inr (1, 0))), (1, .inl ((3 : Int), (3 : Int))), (2, .inl ((n : Int), (n : Int)))], [], xw0, 0, 0)) xf19_5 rfl ?_
  refine hP.go (r := .inl (7, [(3, .inr (.inr (1, 43))), (0, .inr (.inr (1, 0))), (1, .inl ((3 : Int), (3 : Int))), (2, .inl ((n : Int), (n : Int)))], [.inr (.inr (1, 43))], xw0, 0, 0)) xf19_6 rfl ?_
  refine hP.go (r := .inl (10, [(3, .inr (.inr (1, 43))), (0, .inr (.inr (1, 0))), (1, .inl ((3 : Int), (3 : Int))), (2, .inl ((n : Int), (n : Int)))], [], xw0, 0, 0)) xf19_7 rfl ?_
  refine hP.go (r := .inl (11, [(3, .inr (.inr (1, 43))), (0, .inr (.inr (1, 0))), (1, .inl ((3 : Int), (3 : Int))), (2, .inl ((n : Int), (n : Int)))], [.inl ((n : Int), (n : Int))], xw0, 0, 0)) xf19_10 rfl ?_
  refine hP.go (r := .inl (13, [(3, .inr (.inr (1, 43))), (0, .inr (.inr (1, 0))), (1, .inl ((3 : Int), (3 : Int))), (2, .inl ((n : Int), (n : Int)))], [.inl ((40 : Int), (40 : Int)), .inl ((n : Int), (n : Int))], xw0, 0, 0)) xf19_11 rfl ?_
  refine hP.go (r := .inl (18, [(3, .inr (.inr (1, 43))), (0, .inr (.inr (1, 0))), (1, .inl ((3 : Int), (3 : Int))), (2, .inl ((n : Int), (n : Int)))], [], xw0, 0, 0)) xf19_13 (sx_icmp (o := true) (xcle_of.trans (by simp <;> omega))) ?_
  refine hP.go (r := .inl (19, [(3, .inr (.inr (1, 43))), (0, .inr (.inr (1, 0))), (1, .inl ((3 : Int), (3 : Int))), (2, .inl ((n : Int), (n : Int)))], [.inl ((n : Int), (n : Int))], xw0, 0, 0)) xf19_18 rfl ?_
  refine hP.go (r := .inl (28, [(3, .inr (.inr (1, 43))), (0, .inr (.inr (1, 0))), (1, .inl ((3 : Int), (3 : Int))), (2, .inl ((n : Int), (n : Int)))], [], xw0, 0, 0)) xf19_19 (sx_if (o := true) (xge_of.trans (by simp <;> omega))) ?_
  refine hP.go (r := .inl (29, [(3, .inr (.inr (1, 43))), (0, .inr (.inr (1, 0))), (1, .inl ((3 : Int), (3 : Int))), (2, .inl ((n : Int), (n : Int)))], [.inr (.inr (1, 43))], xw0, 0, 0)) xf19_28 rfl ?_
  refine hP.go (r := .inl (30, [(3, .inr (.inr (1, 43))), (0, .inr (.inr (1, 0))), (1, .inl ((3 : Int), (3 : Int))), (2, .inl ((n : Int), (n : Int)))], [.inl ((n : Int), (n : Int)), .inr (.inr (1, 43))], xw0, 0, 0)) xf19_29 rfl ?_
  refine hP.go (r := .inl (32, [(3, .inr (.inr (1, 43))), (0, .inr (.inr (1, 0))), (1, .inl ((3 : Int), (3 : Int))), (2, .inl ((n : Int), (n : Int)))], [.inl ((32 : Int), (32 : Int)), .inl ((n : Int), (n : Int)), .inr (.inr (1, 43))], xw0, 0, 0)) xf19_30 rfl ?_
  refine hP.2.2.1 _ (35, [(3, .inr (.inr (1, 43))), (0, .inr (.inr (1, 0))), (1, .inl ((3 : Int), (3 : Int))), (2, .inl ((n : Int), (n : Int)))], [], xo5_3_w n, 0, 0) ⟨.invokevirtual 86, 11, 3, 0, xm11, none, xo5_3_w n, xf19_32, rfl, xba_met (q := 43) xo5_3_q xo5_3_p hn, fun cf hc => sx_callv (N := xm11) rfl (Nat.le_of_ble_eq_true rfl) (Nat.le_of_ble_eq_true rfl) (Nat.le_of_ble_eq_true rfl) (Nat.le_of_ble_eq_true rfl) (Nat.le_of_ble_eq_true rfl) (Nat.le_of_ble_eq_true rfl) (xrecv_of xo5_3_q) hc⟩ ?_
  refine hP.go (r := .inl (36, [(3, .inr (.inr (1, 43))), (0, .inr (.inr (1, 0))), (1, .inl ((3 : Int), (3 : Int))), (2, .inl ((n : Int), (n : Int)))], [.inl ((n : Int), (n : Int))], xo5_3_w n, 0, 0)) xf19_35 rfl ?_
  exact hP.go (r := .inr (some (.inl ((n : Int), (n : Int))), xo5_3_w n, 0, 0)) xf19_36 rfl hF
theorem xo5_3_i {W : XW} : xcf 20 xscA 170 [.inl (3, 3)] W = some (some (.inl (1, 1)), W) := xcf_mrg W (w := []) (w' := []) (N := xm170) rfl rfl (@of_decide_eq_true _ (xd11 _ _) (show @decide _ (xd11 (xcf 20 xscA 170 [.inl (3, 3)] []) (some (some (.inl (1, 1)), []))) = true by decide +kernel))
set_option maxRecDepth 100000 in
set_option maxHeartbeats 4000000 in
theorem xo5_3_l {P : XR → Prop} (hP : XCl (xSt xscA xm169) (xJm l D tA ex xscA xm169) P) {W : XW} (h57 : W[57]? = some xc57) (hl : 63 < W.length) {n : Nat} (hn : n ≤ 40) (hF : P (.inr (some (.inl ((n : Int), (n : Int))), (W.set 62 (.inr (0, xtl 4 (xup (fun _ => -9) 3 (n : Int))))).set 63 (.inr (0, xtl 160 (xfil (fun _ => 0) 32 120 40))), 0, 0))) : ∀ (d i : Nat), i + d = 40 → P (.inl (34, [(3, .inl ((i : Int), (i : Int))), (0, .inr (.inr (1, 57))), (1, .inl ((3 : Int), (3 : Int))), (2, .inl ((n : Int), (n : Int)))], [], (W.set 62 (.inr (0, xtl 4 (xup (fun _ => -9) 3 (n : Int))))).set 63 (.inr (0, xtl 160 (xfil (fun _ => 0) 32 120 i))), 0, 0)) := fun d => by
  induction d with
  | zero =>
    intro i hi
    refine hP.go (r := .inl (35, [(3, .inl ((i : Int), (i : Int))), (0, .inr (.inr (1, 57))), (1, .inl ((3 : Int), (3 : Int))), (2, .inl ((n : Int), (n : Int)))], [.inl ((i : Int), (i : Int))], (W.set 62 (.inr (0, xtl 4 (xup (fun _ => -9) 3 (n : Int))))).set 63 (.inr (0, xtl 160 (xfil (fun _ => 0) 32 120 i))), 0, 0)) xf169_34 rfl ?_
    refine hP.go (r := .inl (37, [(3, .inl ((i : Int), (i : Int))), (0, .inr (.inr (1, 57))), (1, .inl ((3 : Int), (3 : Int))), (2, .inl ((n : Int), (n : Int)))], [.inl ((40 : Int), (40 : Int)), .inl ((i : Int), (i : Int))], (W.set 62 (.inr (0, xtl 4 (xup (fun _ => -9) 3 (n : Int))))).set 63 (.inr (0, xtl 160 (xfil (fun _ => 0) 32 120 i))), 0, 0)) xf169_35 rfl ?_
    refine hP.go (r := .inl (59, [(3, .inl ((i : Int), (i : Int))), (0, .inr (.inr (1, 57))), (1, .inl ((3 : Int), (3 : Int))), (2, .inl ((n : Int), (n : Int)))], [], (W.set 62 (.inr (0, xtl 4 (xup (fun _ => -9) 3 (n : Int))))).set 63 (.inr (0, xtl 160 (xfil (fun _ => 0) 32 120 i))), 0, 0)) xf169_37 (sx_icmp (o := true) (xge_of.trans (by simp <;> omega))) ?_
    refine hP.go (r := .inl (60, [(3, .inl ((i : Int), (i : Int))), (0, .inr (.inr (1, 57))), (1, .inl ((3 : Int), (3 : Int))), (2, .inl ((n : Int), (n : Int)))], [.inl ((n : Int), (n : Int))], (W.set 62 (.inr (0, xtl 4 (xup (fun _ => -9) 3 (n : Int))))).set 63 (.inr (0, xtl 160 (xfil (fun _ => 0) 32 120 i))), 0, 0)) xf169_59 rfl ?_
    have e : i = 40 := by omega
    subst e
    exact hP.go (r := .inr (some (.inl ((n : Int), (n : Int))), (W.set 62 (.inr (0, xtl 4 (xup (fun _ => -9) 3 (n : Int))))).set 63 (.inr (0, xtl 160 (xfil (fun _ => 0) 32 120 40))), 0, 0)) xf169_60 rfl hF
  | succ d ih =>
    intro i hi
    have g57 : ((W.set 62 (.inr (0, xtl 4 (xup (fun _ => -9) 3 (n : Int))))).set 63 (.inr (0, xtl 160 (xfil (fun _ => 0) 32 120 i))))[57]? = some xc57 := xset_get (by decide) (xset_get (by decide) h57)
    have g2 : ((W.set 62 (.inr (0, xtl 4 (xup (fun _ => -9) 3 (n : Int))))).set 63 (.inr (0, xtl 160 (xfil (fun _ => 0) 32 120 i))))[63]? = some (.inr (0, xtl 160 (xfil (fun _ => 0) 32 120 i))) := xset_at (by rw [List.length_set]; exact hl)
    refine hP.go (r := .inl (35, [(3, .inl ((i : Int), (i : Int))), (0, .inr (.inr (1, 57))), (1, .inl ((3 : Int), (3 : Int))), (2, .inl ((n : Int), (n : Int)))], [.inl ((i : Int), (i : Int))], (W.set 62 (.inr (0, xtl 4 (xup (fun _ => -9) 3 (n : Int))))).set 63 (.inr (0, xtl 160 (xfil (fun _ => 0) 32 120 i))), 0, 0)) xf169_34 rfl ?_
    refine hP.go (r := .inl (37, [(3, .inl ((i : Int), (i : Int))), (0, .inr (.inr (1, 57))), (1, .inl ((3 : Int), (3 : Int))), (2, .inl ((n : Int), (n : Int)))], [.inl ((40 : Int), (40 : Int)), .inl ((i : Int), (i : Int))], (W.set 62 (.inr (0, xtl 4 (xup (fun _ => -9) 3 (n : Int))))).set 63 (.inr (0, xtl 160 (xfil (fun _ => 0) 32 120 i))), 0, 0)) xf169_35 rfl ?_
    refine hP.go (r := .inl (40, [(3, .inl ((i : Int), (i : Int))), (0, .inr (.inr (1, 57))), (1, .inl ((3 : Int), (3 : Int))), (2, .inl ((n : Int), (n : Int)))], [], (W.set 62 (.inr (0, xtl 4 (xup (fun _ => -9) 3 (n : Int))))).set 63 (.inr (0, xtl 160 (xfil (fun _ => 0) 32 120 i))), 0, 0)) xf169_37 (sx_icmp (o := false) (xge_of.trans (by simp <;> omega))) ?_
    refine hP.go (r := .inl (41, [(3, .inl ((i : Int), (i : Int))), (0, .inr (.inr (1, 57))), (1, .inl ((3 : Int), (3 : Int))), (2, .inl ((n : Int), (n : Int)))], [.inr (.inr (1, 57))], (W.set 62 (.inr (0, xtl 4 (xup (fun _ => -9) 3 (n : Int))))).set 63 (.inr (0, xtl 160 (xfil (fun _ => 0) 32 120 i))), 0, 0)) xf169_40 rfl ?_
    refine hP.go (r := .inl (44, [(3, .inl ((i : Int), (i : Int))), (0, .inr (.inr (1, 57))), (1, .inl ((3 : Int), (3 : Int))), (2, .inl ((n : Int), (n : Int)))], [.inr (.inr (1, 63))], (W.set 62 (.inr (0, xtl 4 (xup (fun _ => -9) 3 (n : Int))))).set 63 (.inr (0, xtl 160 (xfil (fun _ => 0) 32 120 i))), 0, 0)) xf169_41 (sx_get g57 rfl) ?_
    refine hP.go (r := .inl (46, [(3, .inl ((i : Int), (i : Int))), (0, .inr (.inr (1, 57))), (1, .inl ((3 : Int), (3 : Int))), (2, .inl ((n : Int), (n : Int)))], [.inl ((40 : Int), (40 : Int)), .inr (.inr (1, 63))], (W.set 62 (.inr (0, xtl 4 (xup (fun _ => -9) 3 (n : Int))))).set 63 (.inr (0, xtl 160 (xfil (fun _ => 0) 32 120 i))), 0, 0)) xf169_44 rfl ?_
    refine hP.go (r := .inl (47, [(3, .inl ((i : Int), (i : Int))), (0, .inr (.inr (1, 57))), (1, .inl ((3 : Int), (3 : Int))), (2, .inl ((n : Int), (n : Int)))], [.inl ((3 : Int), (3 : Int)), .inl ((40 : Int), (40 : Int)), .inr (.inr (1, 63))], (W.set 62 (.inr (0, xtl 4 (xup (fun _ => -9) 3 (n : Int))))).set 63 (.inr (0, xtl 160 (xfil (fun _ => 0) 32 120 i))), 0, 0)) xf169_46 rfl ?_
    refine hP.go (r := .inl (48, [(3, .inl ((i : Int), (i : Int))), (0, .inr (.inr (1, 57))), (1, .inl ((3 : Int), (3 : Int))), (2, .inl ((n : Int), (n : Int)))], [.inl ((120 : Int), (120 : Int)), .inr (.inr (1, 63))], (W.set 62 (.inr (0, xtl 4 (xup (fun _ => -9) 3 (n : Int))))).set 63 (.inr (0, xtl 160 (xfil (fun _ => 0) 32 120 i))), 0, 0)) xf169_47 (sx_imul (by decide +kernel)) ?_
    refine hP.go (r := .inl (49, [(3, .inl ((i : Int), (i : Int))), (0, .inr (.inr (1, 57))), (1, .inl ((3 : Int), (3 : Int))), (2, .inl ((n : Int), (n : Int)))], [.inl ((i : Int), (i : Int)), .inl ((120 : Int), (120 : Int)), .inr (.inr (1, 63))], (W.set 62 (.inr (0, xtl 4 (xup (fun _ => -9) 3 (n : Int))))).set 63 (.inr (0, xtl 160 (xfil (fun _ => 0) 32 120 i))), 0, 0)) xf169_48 rfl ?_
    refine hP.go (r := .inl (50, [(3, .inl ((i : Int), (i : Int))), (0, .inr (.inr (1, 57))), (1, .inl ((3 : Int), (3 : Int))), (2, .inl ((n : Int), (n : Int)))], [.inl ((120 : Int) + (i : Int), (120 : Int) + (i : Int)), .inr (.inr (1, 63))], (W.set 62 (.inr (0, xtl 4 (xup (fun _ => -9) 3 (n : Int))))).set 63 (.inr (0, xtl 160 (xfil (fun _ => 0) 32 120 i))), 0, 0)) xf169_49 (sx_iadd (by omega)) ?_
    refine hP.go (r := .inl (52, [(3, .inl ((i : Int), (i : Int))), (0, .inr (.inr (1, 57))), (1, .inl ((3 : Int), (3 : Int))), (2, .inl ((n : Int), (n : Int)))], [.inl ((32 : Int), (32 : Int)), .inl ((120 : Int) + (i : Int), (120 : Int) + (i : Int)), .inr (.inr (1, 63))], (W.set 62 (.inr (0, xtl 4 (xup (fun _ => -9) 3 (n : Int))))).set 63 (.inr (0, xtl 160 (xfil (fun _ => 0) 32 120 i))), 0, 0)) xf169_50 rfl ?_
    refine hP.go (r := .inl (53, [(3, .inl ((i : Int), (i : Int))), (0, .inr (.inr (1, 57))), (1, .inl ((3 : Int), (3 : Int))), (2, .inl ((n : Int), (n : Int)))], [], (W.set 62 (.inr (0, xtl 4 (xup (fun _ => -9) 3 (n : Int))))).set 63 (.inr (0, xtl 160 (xup (xfil (fun _ => 0) 32 120 i) (120 + i) 32))), 0, 0)) xf169_52 ((sx_iast g2 (xtl_writez (c := 120 + i) (by omega) (by omega))).trans (by rw [List.set_set])) ?_
    refine hP.go (r := .inl (56, [(3, .inl ((i : Int) + 1, (i : Int) + 1)), (0, .inr (.inr (1, 57))), (1, .inl ((3 : Int), (3 : Int))), (2, .inl ((n : Int), (n : Int)))], [], (W.set 62 (.inr (0, xtl 4 (xup (fun _ => -9) 3 (n : Int))))).set 63 (.inr (0, xtl 160 (xup (xfil (fun _ => 0) 32 120 i) (120 + i) 32))), 0, 0)) xf169_53 (sx_iinc rfl (Nat.le_of_ble_eq_true rfl) (by dsimp only; omega)) ?_
    refine hP.go (r := .inl (34, [(3, .inl ((i : Int) + 1, (i : Int) + 1)), (0, .inr (.inr (1, 57))), (1, .inl ((3 : Int), (3 : Int))), (2, .inl ((n : Int), (n : Int)))], [], (W.set 62 (.inr (0, xtl 4 (xup (fun _ => -9) 3 (n : Int))))).set 63 (.inr (0, xtl 160 (xup (xfil (fun _ => 0) 32 120 i) (120 + i) 32))), 0, 0)) xf169_56 rfl ?_
    have h := ih (i + 1) (by omega)
    rw [show ((i + 1 : Nat) : Int) = (i : Int) + 1 from rfl] at h
    rw [xfil_up]
    exact h
set_option maxRecDepth 100000 in
set_option maxHeartbeats 4000000 in
theorem xo5_3_k {W : XW} (h57 : W[57]? = some xc57) (hsz : W[62]? = some (.inr (0, xtl 4 (fun _ => -9)))) (har : W[63]? = some (.inr (0, xtl 160 (fun _ => 0)))) {n : Nat} (hn : n ≤ 40) : XMet l D vwCl (tysX tA) tA ex (xSTX ++ [xscA]) xSV xNW xNF xTs xm169 [.inr (.inr (1, 57)), .inl (3, 3), .inl ((n : Int), (n : Int))] W (some (.inl ((n : Int), (n : Int)))) ((W.set 62 (.inr (0, xtl 4 (xup (fun _ => -9) 3 (n : Int))))).set 63 (.inr (0, xtl 160 (xfil (fun _ => 0) 32 120 40)))) := by
  have hl : 63 < W.length := (List.getElem?_eq_some_iff.mp har).1
  refine xmet_ofK x_good (x_tysX tA) (x_tysY tA) (x_tysC tA) x_ok (fun j N as w ro w' => xcf_met j N as w ro w') (j := 169) (w2 := (W.set 62 (.inr (0, xtl 4 (xup (fun _ => -9) 3 (n : Int))))).set 63 (.inr (0, xtl 160 (xfil (fun _ => 0) 32 120 40)))) (k2 := 0) (n2 := 0) rfl (Nat.le_of_ble_eq_true rfl) ⟨Nat.le_refl _, Nat.le_refl _⟩ (Or.inr rfl) (fun P hP hF => ?_)
  show P (.inl (0, [(0, .inr (.inr (1, 57))), (1, .inl ((3 : Int), (3 : Int))), (2, .inl ((n : Int), (n : Int)))], [], W, 0, 0))
  refine hP.go (r := .inl (1, [(0, .inr (.inr (1, 57))), (1, .inl ((3 : Int), (3 : Int))), (2, .inl ((n : Int), (n : Int)))], [.inl ((3 : Int), (3 : Int))], W, 0, 0)) xf169_0 rfl ?_
  refine hP.go (r := .inl (4, [(0, .inr (.inr (1, 57))), (1, .inl ((3 : Int), (3 : Int))), (2, .inl ((n : Int), (n : Int)))], [.inl ((1 : Int), (1 : Int))], W, 0, 0)) xf169_1 (sx_calls (N := xm170) (ro := some (.inl ((1 : Int), (1 : Int)))) (w' := W) (k := 0) (n := 0) (by decide) rfl (Nat.le_of_ble_eq_true rfl) (Nat.le_of_ble_eq_true rfl) (Nat.le_of_ble_eq_true rfl) (Nat.le_of_ble_eq_true rfl) (Nat.le_of_ble_eq_true rfl) (Nat.le_of_ble_eq_true rfl) (xo5_3_i)) ?_
  refine hP.go (r := .inl (7, [(0, .inr (.inr (1, 57))), (1, .inl ((3 : Int), (3 : Int))), (2, .inl ((n : Int), (n : Int)))], [], W, 0, 0)) xf169_4 (sx_if (o := false) rfl) ?_
  refine hP.go (r := .inl (8, [(0, .inr (.inr (1, 57))), (1, .inl ((3 : Int), (3 : Int))), (2, .inl ((n : Int), (n : Int)))], [.inl ((n : Int), (n : Int))], W, 0, 0)) xf169_7 rfl ?_
  refine hP.go (r := .inl (10, [(0, .inr (.inr (1, 57))), (1, .inl ((3 : Int), (3 : Int))), (2, .inl ((n : Int), (n : Int)))], [.inl ((40 : Int), (40 : Int)), .inl ((n : Int), (n : Int))], W, 0, 0)) xf169_8 rfl ?_
  refine hP.go (r := .inl (15, [(0, .inr (.inr (1, 57))), (1, .inl ((3 : Int), (3 : Int))), (2, .inl ((n : Int), (n : Int)))], [], W, 0, 0)) xf169_10 (sx_icmp (o := true) (xcle_of.trans (by simp <;> omega))) ?_
  refine hP.go (r := .inl (16, [(0, .inr (.inr (1, 57))), (1, .inl ((3 : Int), (3 : Int))), (2, .inl ((n : Int), (n : Int)))], [.inl ((n : Int), (n : Int))], W, 0, 0)) xf169_15 rfl ?_
  refine hP.go (r := .inl (25, [(0, .inr (.inr (1, 57))), (1, .inl ((3 : Int), (3 : Int))), (2, .inl ((n : Int), (n : Int)))], [], W, 0, 0)) xf169_16 (sx_if (o := true) (xge_of.trans (by simp <;> omega))) ?_
  refine hP.go (r := .inl (26, [(0, .inr (.inr (1, 57))), (1, .inl ((3 : Int), (3 : Int))), (2, .inl ((n : Int), (n : Int)))], [.inr (.inr (1, 57))], W, 0, 0)) xf169_25 rfl ?_
  refine hP.go (r := .inl (29, [(0, .inr (.inr (1, 57))), (1, .inl ((3 : Int), (3 : Int))), (2, .inl ((n : Int), (n : Int)))], [.inr (.inr (1, 62))], W, 0, 0)) xf169_26 (sx_get h57 rfl) ?_
  refine hP.go (r := .inl (30, [(0, .inr (.inr (1, 57))), (1, .inl ((3 : Int), (3 : Int))), (2, .inl ((n : Int), (n : Int)))], [.inl ((3 : Int), (3 : Int)), .inr (.inr (1, 62))], W, 0, 0)) xf169_29 rfl ?_
  refine hP.go (r := .inl (31, [(0, .inr (.inr (1, 57))), (1, .inl ((3 : Int), (3 : Int))), (2, .inl ((n : Int), (n : Int)))], [.inl ((n : Int), (n : Int)), .inl ((3 : Int), (3 : Int)), .inr (.inr (1, 62))], W, 0, 0)) xf169_30 rfl ?_
  refine hP.go (r := .inl (32, [(0, .inr (.inr (1, 57))), (1, .inl ((3 : Int), (3 : Int))), (2, .inl ((n : Int), (n : Int)))], [], (W.set 62 (.inr (0, xtl 4 (xup (fun _ => -9) 3 (n : Int))))), 0, 0)) xf169_31 (sx_iast hsz (xtl_writez (c := 3) rfl (by decide))) ?_
  refine hP.go (r := .inl (33, [(0, .inr (.inr (1, 57))), (1, .inl ((3 : Int), (3 : Int))), (2, .inl ((n : Int), (n : Int)))], [.inl ((0 : Int), (0 : Int))], (W.set 62 (.inr (0, xtl 4 (xup (fun _ => -9) 3 (n : Int))))), 0, 0)) xf169_32 rfl ?_
  refine hP.go (r := .inl (34, [(3, .inl ((0 : Int), (0 : Int))), (0, .inr (.inr (1, 57))), (1, .inl ((3 : Int), (3 : Int))), (2, .inl ((n : Int), (n : Int)))], [], (W.set 62 (.inr (0, xtl 4 (xup (fun _ => -9) 3 (n : Int))))), 0, 0)) xf169_33 rfl ?_
  have h := xo5_3_l hP h57 hl hn hF 40 0 (Nat.zero_add _)
  rw [xfil_0] at h
  have e : (W.set 62 (.inr (0, xtl 4 (xup (fun _ => -9) 3 (n : Int))))).set 63 (.inr (0, xtl 160 (fun _ => 0))) = (W.set 62 (.inr (0, xtl 4 (xup (fun _ => -9) 3 (n : Int))))) := by
    have e1 : (W.set 62 (.inr (0, xtl 4 (xup (fun _ => -9) 3 (n : Int)))))[63]? = some (.inr (0, xtl 160 (fun _ => 0))) := xset_get (by decide) har
    obtain ⟨h1, e2⟩ := List.getElem?_eq_some_iff.mp e1
    rw [← e2]
    exact List.set_getElem_self h1
  rw [e] at h
  exact h
end XRW
def xq5 : List ((Int × Int) × (Int × Int)) := [((-2147483648, -1), (-2147483648, 40)), ((-2147483648, -1), (41, 2147483647)), ((4, 2147483647), (-2147483648, 40)), ((4, 2147483647), (41, 2147483647)), ((0, 0), (-2147483648, -1)), ((0, 0), (41, 2147483647)), ((1, 1), (-2147483648, -1)), ((1, 1), (41, 2147483647)), ((2, 2), (-2147483648, -1)), ((2, 2), (41, 2147483647)), ((3, 3), (-2147483648, -1)), ((3, 3), (41, 2147483647))]
theorem xq5_ok : ∀ q ∈ xq5, xpair2 19 169 q.1 q.2 = true := List.all_eq_true.mp (show xq5.all (fun q => xpair2 19 169 q.1 q.2) = true by decide +kernel)
section XLW
variable {p : Program} {l : Launch} {e : Env} {s : State} {m : MethodId} {below : List Frame} {meth : Method} {c : Code} {b L : Nat} {xs : Nat → Int32} {D : va_G} {tA : Nat → ClassId} {ex : List Nat}
theorem xlaw_5b (C0 : lw_At p s m meth c b L xs) (hEn : ∀ sc : List XV, sc.length = 6 → (∀ (i : Nat) (x : XV), sc[i]? = some x → xv_in [] [] x (.int (xs i))) → XEnv D vwCl (tysX tA) ex (xSTX ++ [sc]) xSV xNW xNF (fun q : Nat => s.heap.size ≤ q) s) {q : (Int × Int) × (Int × Int)} (hq : q ∈ xq5) (h1 : q.1.1 ≤ (xs 1).toInt ∧ (xs 1).toInt ≤ q.1.2) (h2 : q.2.1 ≤ (xs 2).toInt ∧ (xs 2).toInt ≤ q.2.2) : XLS p l e s m b below meth c D tA ex (.inl (xS 5)) := by
  obtain ⟨z, w1, w2, e1, e2, e3⟩ := xpair2_ok (xq5_ok q hq)
  exact xlw_5 C0 hEn h1 h2 (xcf_met _ _ _ _ _ _ rfl e1) e2 (xcf_met _ _ _ _ _ _ rfl e3)
theorem xlaw_5 (C0 : lw_At p s m meth c b L xs) (hEn : ∀ sc : List XV, sc.length = 6 → (∀ (i : Nat) (x : XV), sc[i]? = some x → xv_in [] [] x (.int (xs i))) → XEnv D vwCl (tysX tA) ex (xSTX ++ [sc]) xSV xNW xNF (fun q : Nat => s.heap.size ≤ q) s) : XLS p l e s m b below meth c D tA ex (.inl (xS 5)) := by
  have r1 := x_rng (xs 1)
  have r2 := x_rng (xs 2)
  by_cases h1 : (xs 1).toInt < 0
  · by_cases h2 : (xs 2).toInt ≤ 40
    · exact xlaw_5b C0 hEn (q := ((-2147483648, -1), (-2147483648, 40))) (List.mem_of_getElem? (i := 0) rfl) ⟨r1.1, by show _ ≤ (-1 : Int); omega⟩ ⟨r2.1, h2⟩
    · exact xlaw_5b C0 hEn (q := ((-2147483648, -1), (41, 2147483647))) (List.mem_of_getElem? (i := 1) rfl) ⟨r1.1, by show _ ≤ (-1 : Int); omega⟩ ⟨by show (41 : Int) ≤ _; omega, r2.2⟩
  by_cases h3 : 4 ≤ (xs 1).toInt
  · by_cases h2 : (xs 2).toInt ≤ 40
    · exact xlaw_5b C0 hEn (q := ((4, 2147483647), (-2147483648, 40))) (List.mem_of_getElem? (i := 2) rfl) ⟨h3, r1.2⟩ ⟨r2.1, h2⟩
    · exact xlaw_5b C0 hEn (q := ((4, 2147483647), (41, 2147483647))) (List.mem_of_getElem? (i := 3) rfl) ⟨h3, r1.2⟩ ⟨by show (41 : Int) ≤ _; omega, r2.2⟩
  obtain ⟨n, en⟩ : ∃ n : Int, (xs 2).toInt = n := ⟨_, rfl⟩
  rcases (show (xs 1).toInt = 0 ∨ (xs 1).toInt = 1 ∨ (xs 1).toInt = 2 ∨ (xs 1).toInt = 3 by omega) with hr | hr | hr | hr
  · have i1 : ((0 : Int), (0 : Int)).1 ≤ (xs 1).toInt ∧ (xs 1).toInt ≤ ((0 : Int), (0 : Int)).2 := ⟨by show (0 : Int) ≤ _; omega, by show _ ≤ (0 : Int); omega⟩
    by_cases h4 : (xs 2).toInt < 0
    · exact xlaw_5b C0 hEn (q := ((0, 0), (-2147483648, -1))) (List.mem_of_getElem? (i := 4) rfl) i1 ⟨r2.1, by show _ ≤ (-1 : Int); omega⟩
    by_cases h5 : 41 ≤ (xs 2).toInt
    · exact xlaw_5b C0 hEn (q := ((0, 0), (41, 2147483647))) (List.mem_of_getElem? (i := 5) rfl) i1 ⟨h5, r2.2⟩
    obtain ⟨k, ek⟩ : ∃ k : Nat, (xs 2).toInt = (k : Int) := ⟨(xs 2).toInt.toNat, by omega⟩
    have i2 : ((k : Int), (k : Int)).1 ≤ (xs 2).toInt ∧ (xs 2).toInt ≤ ((k : Int), (k : Int)).2 := ⟨by show (k : Int) ≤ _; omega, by show _ ≤ (k : Int); omega⟩
    exact xlw_5 C0 hEn i1 i2 (xo5_0_c (by omega)) (xset_get (by decide) (xset_get (by decide) xw0_57)) (xo5_0_k (xset_get (by decide) (xset_get (by decide) xw0_57)) (xset_get (by decide) (xset_get (by decide) xo5_sz)) (xset_get (by decide) (xset_get (by decide) xo5_ar)) (by omega))
  · have i1 : ((1 : Int), (1 : Int)).1 ≤ (xs 1).toInt ∧ (xs 1).toInt ≤ ((1 : Int), (1 : Int)).2 := ⟨by show (1 : Int) ≤ _; omega, by show _ ≤ (1 : Int); omega⟩
    by_cases h4 : (xs 2).toInt < 0
    · exact xlaw_5b C0 hEn (q := ((1, 1), (-2147483648, -1))) (List.mem_of_getElem? (i := 6) rfl) i1 ⟨r2.1, by show _ ≤ (-1 : Int); omega⟩
    by_cases h5 : 41 ≤ (xs 2).toInt
    · exact xlaw_5b C0 hEn (q := ((1, 1), (41, 2147483647))) (List.mem_of_getElem? (i := 7) rfl) i1 ⟨h5, r2.2⟩
    obtain ⟨k, ek⟩ : ∃ k : Nat, (xs 2).toInt = (k : Int) := ⟨(xs 2).toInt.toNat, by omega⟩
    have i2 : ((k : Int), (k : Int)).1 ≤ (xs 2).toInt ∧ (xs 2).toInt ≤ ((k : Int), (k : Int)).2 := ⟨by show (k : Int) ≤ _; omega, by show _ ≤ (k : Int); omega⟩
    exact xlw_5 C0 hEn i1 i2 (xo5_1_c (by omega)) (xset_get (by decide) (xset_get (by decide) xw0_57)) (xo5_1_k (xset_get (by decide) (xset_get (by decide) xw0_57)) (xset_get (by decide) (xset_get (by decide) xo5_sz)) (xset_get (by decide) (xset_get (by decide) xo5_ar)) (by omega))
  · have i1 : ((2 : Int), (2 : Int)).1 ≤ (xs 1).toInt ∧ (xs 1).toInt ≤ ((2 : Int), (2 : Int)).2 := ⟨by show (2 : Int) ≤ _; omega, by show _ ≤ (2 : Int); omega⟩
    by_cases h4 : (xs 2).toInt < 0
    · exact xlaw_5b C0 hEn (q := ((2, 2), (-2147483648, -1))) (List.mem_of_getElem? (i := 8) rfl) i1 ⟨r2.1, by show _ ≤ (-1 : Int); omega⟩
    by_cases h5 : 41 ≤ (xs 2).toInt
    · exact xlaw_5b C0 hEn (q := ((2, 2), (41, 2147483647))) (List.mem_of_getElem? (i := 9) rfl) i1 ⟨h5, r2.2⟩
    obtain ⟨k, ek⟩ : ∃ k : Nat, (xs 2).toInt = (k : Int) := ⟨(xs 2).toInt.toNat, by omega⟩
    have i2 : ((k : Int), (k : Int)).1 ≤ (xs 2).toInt ∧ (xs 2).toInt ≤ ((k : Int), (k : Int)).2 := ⟨by show (k : Int) ≤ _; omega, by show _ ≤ (k : Int); omega⟩
    exact xlw_5 C0 hEn i1 i2 (xo5_2_c (by omega)) (xset_get (by decide) (xset_get (by decide) xw0_57)) (xo5_2_k (xset_get (by decide) (xset_get (by decide) xw0_57)) (xset_get (by decide) (xset_get (by decide) xo5_sz)) (xset_get (by decide) (xset_get (by decide) xo5_ar)) (by omega))
  · have i1 : ((3 : Int), (3 : Int)).1 ≤ (xs 1).toInt ∧ (xs 1).toInt ≤ ((3 : Int), (3 : Int)).2 := ⟨by show (3 : Int) ≤ _; omega, by show _ ≤ (3 : Int); omega⟩
    by_cases h4 : (xs 2).toInt < 0
    · exact xlaw_5b C0 hEn (q := ((3, 3), (-2147483648, -1))) (List.mem_of_getElem? (i := 10) rfl) i1 ⟨r2.1, by show _ ≤ (-1 : Int); omega⟩
    by_cases h5 : 41 ≤ (xs 2).toInt
    · exact xlaw_5b C0 hEn (q := ((3, 3), (41, 2147483647))) (List.mem_of_getElem? (i := 11) rfl) i1 ⟨h5, r2.2⟩
    obtain ⟨k, ek⟩ : ∃ k : Nat, (xs 2).toInt = (k : Int) := ⟨(xs 2).toInt.toNat, by omega⟩
    have i2 : ((k : Int), (k : Int)).1 ≤ (xs 2).toInt ∧ (xs 2).toInt ≤ ((k : Int), (k : Int)).2 := ⟨by show (k : Int) ≤ _; omega, by show _ ≤ (k : Int); omega⟩
    exact xlw_5 C0 hEn i1 i2 (xo5_3_c (by omega)) (xset_get (by decide) (xset_get (by decide) xw0_57)) (xo5_3_k (xset_get (by decide) (xset_get (by decide) xw0_57)) (xset_get (by decide) (xset_get (by decide) xo5_sz)) (xset_get (by decide) (xset_get (by decide) xo5_ar)) (by omega))
end XLW
