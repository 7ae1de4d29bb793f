/-! ===== setTimes of the model: its contract in a sea without rock, all of warmth 1 ===== -/
def xfs57 : List XV := [xi 0, .inr (.inr (1, 58)), xi 0, .inr (.inl (some 0)), .inr (.inl (some 0)), .inr (.inl (some 1)), xi 0, .inr (.inr (1, 59)), .inr (.inr (1, 60)), .inr (.inr (1, 61)), .inr (.inr (1, 62)), .inr (.inr (1, 63)), .inr (.inr (1, 64)), .inr (.inr (1, 65)), .inr (.inr (1, 66)), .inr (.inr (1, 67)), .inr (.inr (1, 68)), xi 0, xi 1, .inr (.inr (1, 69)), .inr (.inr (1, 70)), .inr (.inr (1, 71)), .inr (.inr (1, 72)), .inr (.inr (1, 73)), .inr (.inr (1, 74)), .inr (.inr (1, 75)), .inr (.inr (1, 76)), .inr (.inr (1, 77)), .inr (.inr (1, 78)), .inr (.inr (1, 79)), xi 0, .inr (.inr (1, 80)), .inr (.inr (1, 81)), .inr (.inr (1, 82)), .inr (.inr (1, 83)), .inr (.inr (1, 84)), xi 0, .inr (.inr (1, 85)), .inr (.inr (1, 86)), .inr (.inr (1, 87)), .inr (.inr (1, 88)), .inr (.inr (1, 89)), .inr (.inr (1, 90)), .inr (.inr (1, 91)), .inr (.inr (1, 92)), .inr (.inr (1, 93)), .inr (.inr (1, 94)), .inr (.inr (1, 95)), .inr (.inr (1, 96)), .inr (.inr (1, 97)), .inr (.inl (some 0))]
abbrev xc57 : XC := .inl (10, xfs57)
abbrev xc64 : XC := .inr (2, xtl 64 (fun _ => 0))
abbrev xc66 : XC := .inr (0, xtl 64 (fun _ => 1))
theorem xw0_57 : xw0[57]? = some xc57 := @of_decide_eq_true _ (xd10 _ _) (show @decide _ (xd10 (xw0[57]?) (some xc57)) = true by decide +kernel)
theorem xw0_64 : xw0[64]? = some xc64 := @of_decide_eq_true _ (xd10 _ _) (show @decide _ (xd10 (xw0[64]?) (some xc64)) = true by decide +kernel)
theorem xw0_66 : xw0[66]? = some xc66 := @of_decide_eq_true _ (xd10 _ _) (show @decide _ (xd10 (xw0[66]?) (some xc66)) = true by decide +kernel)
theorem xw0_69 : xw0[69]? = some (.inr (0, xtl 64 (fun _ => 0))) := @of_decide_eq_true _ (xd10 _ _) (show @decide _ (xd10 (xw0[69]?) (some (.inr (0, xtl 64 (fun _ => 0))))) = true by decide +kernel)
theorem xw0_len : xw0.length = 98 := by decide +kernel
def xdist (a i : Nat) : Nat := (a % 8 - i % 8) + (i % 8 - a % 8) + ((a / 8 - i / 8) + (i / 8 - a / 8))
def xld (c y : Nat) : Nat := if y = 1 ∧ 0 < c / 8 then c - 8 else if y = 2 ∧ 0 < c % 8 then c - 1 else if y = 3 ∧ c % 8 < 7 then c + 1 else if y = 4 ∧ c / 8 < 7 then c + 8 else c
theorem xld_lt {c y : Nat} (h : c < 64) : xld c y < 64 := by
  unfold xld
  split
  · omega
  · split
    · omega
    · split
      · omega
      · split <;> omega
theorem xdist_lt {a i : Nat} (ha : a < 64) (hi : i < 64) : xdist a i ≤ 14 := by
  unfold xdist
  omega
theorem xdist_self {a : Nat} : xdist a a = 0 := by
  unfold xdist
  omega
theorem xdist_step {a c y : Nat} : xdist a (xld c y) ≤ xdist a c + 1 := by
  unfold xld
  split
  · unfold xdist
    omega
  · split
    · unfold xdist
      omega
    · split
      · unfold xdist
        omega
      · split
        · unfold xdist
          omega
        · omega
theorem xdist_0 {a i : Nat} (h : xdist a i = 0) : a = i := by
  unfold xdist at h
  omega
theorem xdist_pred {a i n : Nat} (ha : a < 64) (hi : i < 64) (h : xdist a i = n + 1) : ∃ c y, c < 64 ∧ 1 ≤ y ∧ y ≤ 4 ∧ xld c y = i ∧ xdist a c = n := by
  unfold xdist at h
  by_cases h1 : a % 8 < i % 8
  · refine ⟨i - 1, 3, by omega, by omega, by omega, ?_, ?_⟩
    · unfold xld
      rw [if_neg (by omega), if_neg (by omega), if_pos (by omega)]
      omega
    · unfold xdist
      omega
  · by_cases h2 : i % 8 < a % 8
    · refine ⟨i + 1, 2, by omega, by omega, by omega, ?_, ?_⟩
      · unfold xld
        rw [if_neg (by omega), if_pos (by omega)]
        omega
      · unfold xdist
        omega
    · by_cases h3 : a / 8 < i / 8
      · refine ⟨i - 8, 4, by omega, by omega, by omega, ?_, ?_⟩
        · unfold xld
          rw [if_neg (by omega), if_neg (by omega), if_neg (by omega), if_pos (by omega)]
          omega
        · unfold xdist
          omega
      · refine ⟨i + 8, 1, by omega, by omega, by omega, ?_, ?_⟩
        · unfold xld
          rw [if_pos (by omega)]
          omega
        · unfold xdist
          omega
def xsw : XW := List.replicate 57 xhd ++ (xc57 :: (List.replicate 6 xhd ++ [xc64]))
theorem xsw_at : ∀ i, i < 65 → i = 57 ∨ i = 64 ∨ xsw[i]? = some xhd := fun i hi => by
  have h := List.all_eq_true.mp (show (List.range 65).all (fun i => decide (i = 57) || (decide (i = 64) || @decide _ (xd10 (xsw[i]?) (some xhd)))) = true by decide +kernel) i (List.mem_range.mpr hi)
  simp only [Bool.or_eq_true] at h
  rcases h with h | h | h
  · exact Or.inl (of_decide_eq_true h)
  · exact Or.inr (Or.inl (of_decide_eq_true h))
  · exact Or.inr (Or.inr (@of_decide_eq_true _ (xd10 _ _) h))
theorem xsw_57 : xsw[57]? = some xc57 := @of_decide_eq_true _ (xd10 _ _) (show @decide _ (xd10 (xsw[57]?) (some xc57)) = true by decide +kernel)
theorem xsw_64 : xsw[64]? = some xc64 := @of_decide_eq_true _ (xd10 _ _) (show @decide _ (xd10 (xsw[64]?) (some xc64)) = true by decide +kernel)
theorem xsw_len : xsw.length = 65 := by decide +kernel
theorem xsw_mrg {W : XW} (h57 : W[57]? = some xc57) (h64 : W[64]? = some xc64) : xmrg xsw W = W := by
  refine xmrg_self (fun i c hc => ?_) (by rw [xsw_len]; exact (List.getElem?_eq_some_iff.mp h64).1)
  have hi : i < 65 := by
    have := (List.getElem?_eq_some_iff.mp hc).1
    rw [xsw_len] at this
    exact this
  rcases xsw_at i hi with h | h | h
  · subst h
    rw [xsw_57] at hc
    cases hc
    exact Or.inr h57
  · subst h
    rw [xsw_64] at hc
    cases hc
    exact Or.inr h64
  · rw [h] at hc
    cases hc
    exact Or.inl rfl
def xldk (c y : Nat) : Bool := @decide _ (xd11 (xcf 20 xscA 186 [.inr (.inr (1, 57)), .inl ((c : Int), (c : Int)), .inl ((y : Int), (y : Int))] xsw) (some (some (.inl ((xld c y : Int), (xld c y : Int))), xsw)))
theorem xld_run0 : (List.range 64).all (fun c => (List.range 4).all (fun y => xldk c (y + 1))) = true := by decide +kernel
theorem xld_run {c y : Nat} (hc : c < 64) (h1 : 1 ≤ y) (h4 : y ≤ 4) : xcf 20 xscA 186 [.inr (.inr (1, 57)), .inl ((c : Int), (c : Int)), .inl ((y : Int), (y : Int))] xsw = some (some (.inl ((xld c y : Int), (xld c y : Int))), xsw) := by
  have h := List.all_eq_true.mp (List.all_eq_true.mp xld_run0 c (List.mem_range.mpr hc)) (y - 1) (List.mem_range.mpr (by omega))
  rw [show y - 1 + 1 = y by omega] at h
  exact @of_decide_eq_true _ (xd11 _ _) h
theorem xld_in {W : XW} (h57 : W[57]? = some xc57) (h64 : W[64]? = some xc64) {c y : Nat} (hc : c < 64) (h1 : 1 ≤ y) (h4 : y ≤ 4) : xcf 20 xscA 186 [.inr (.inr (1, 57)), .inl ((c : Int), (c : Int)), .inl ((y : Int), (y : Int))] W = some (some (.inl ((xld c y : Int), (xld c y : Int))), W) := by
  have h := xcf_mrg W (N := xm186) rfl rfl (xld_run hc h1 h4)
  rw [xsw_mrg h57 h64] at h
  exact h
def xJd (a : Nat) (f : Nat → Int) : Prop := (∀ i, i < 64 → (xdist a i : Int) ≤ f i ∧ f i ≤ 100000) ∧ f a = 0
theorem xJd_1 {a : Nat} : xJ1 (xJd a) xld (fun _ => 1) := by
  refine ⟨fun f hf i hi => ⟨Int.le_trans (Int.natCast_nonneg _) (hf.1 i hi).1, (hf.1 i hi).2⟩, fun f c y hf hc y1 y4 hlt hr => ⟨fun i hi => ?_, ?_⟩⟩
  · unfold xup
    by_cases h : i = xld c y
    · rw [if_pos h, h]
      have h1 := (hf.1 c hc).1
      have h2 := xdist_step (a := a) (c := c) (y := y)
      dsimp only
      omega
    · rw [if_neg h]
      exact hf.1 i hi
  · unfold xup
    by_cases h : a = xld c y
    · exfalso
      rw [← h, hf.2] at hr
      have h1 := (hf.1 c hc).1
      have h2 := Int.natCast_nonneg (xdist a c)
      dsimp only at hr
      omega
    · rw [if_neg h]
      exact hf.2
theorem xJd_le {a : Nat} (ha : a < 64) {f : Nat → Int} (h0 : f a = 0) (hs : ∀ c y, c < 64 → 1 ≤ y → y ≤ 4 → xstab xld (fun _ => 1) f c y) : ∀ (n i : Nat), i < 64 → xdist a i = n → f i ≤ (n : Int)
  | 0, i, _, h => by
    have := xdist_0 h
    subst this
    rw [h0]
    exact Int.le_refl _
  | n + 1, i, hi, h => by
    obtain ⟨c, y, hc, y1, y4, e1, e2⟩ := xdist_pred ha hi h
    have h1 := xJd_le ha h0 hs n c hc e2
    have h2 := xdist_lt ha hc
    have h3 := hs c y hc y1 y4 (by omega)
    rw [e1] at h3
    dsimp only at h3
    omega
abbrev xDm (a : Nat) : Nat → Int := fun i => (xdist a i : Int)
theorem xJd_eq {a : Nat} (ha : a < 64) {f : Nat → Int} (hf : xJd a f) (hs : ∀ c y, c < 64 → 1 ≤ y → y ≤ 4 → xstab xld (fun _ => 1) f c y) : xtl 64 f = xtl 64 (xDm a) := by
  unfold xtl
  refine List.map_congr_left (fun i hi => ?_)
  have hi := List.mem_range.mp hi
  have h1 := (hf.1 i hi).1
  have h2 := xJd_le ha hf.2 hs (xdist a i) i hi rfl
  rw [show f i = (xdist a i : Int) by omega]
theorem xwt_self {W : XW} {g : Nat → Int} (h69 : W[69]? = some (.inr (0, xtl 64 g))) : xWT W g = W := by
  obtain ⟨h, e⟩ := List.getElem?_eq_some_iff.mp h69
  show W.set 69 _ = W
  rw [← e]
  exact List.set_getElem_self h
section XST
variable {l : Launch} {D : va_G} {tA : Nat → ClassId} {ex : List Nat}
set_option maxRecDepth 100000 in
/-- setTimes: the steps between -/
theorem xst_met {W : XW} {g : Nat → Int} (h57 : W[57]? = some xc57) (h64 : W[64]? = some xc64) (h66 : W[66]? = some xc66) (h69 : W[69]? = some (.inr (0, xtl 64 g))) {a : Nat} (ha : a < 64) : XMet l D vwCl (tysX tA) tA ex (xSTX ++ [xscA]) xSV xNW xNF xTs xm185 [.inr (.inr (1, 57)), .inl ((a : Int), (a : Int))] W none (xWT W (xDm a)) := by
  have hlen : 69 < W.length := (List.getElem?_eq_some_iff.mp h69).1
  have hH : xTH xscA W xfs57 (fun _ => 1) xld := ⟨h57, rfl, rfl, rfl, h66, hlen, fun i hi => ⟨by show (0 : Int) ≤ 1; decide, by show (1 : Int) ≤ 4; decide⟩, fun c y hc y1 y4 => ⟨xld_lt hc, fun f => xld_in (xset_get (by decide) h57) (xset_get (by decide) h64) hc y1 y4⟩⟩
  refine xmet_ofK x_good (x_tysX tA) (x_tysY tA) (x_tysC tA) x_ok (fun j N as w ro w' => xcf_met j N as w ro w') (j := 185) (w2 := xWT W (xDm a)) (k2 := 0) (n2 := 0) rfl (Nat.le_of_ble_eq_true rfl) ⟨Nat.le_refl _, Nat.le_refl _⟩ (Or.inr rfl) (fun P hP hF => ?_)
  have key := xtm_all hP hH h64 xJd_1 ha (g := g) (J := xJd a) ⟨fun i hi => ?_, ?_⟩ (fun f hf hs => ?_)
  · rw [xwt_self h69] at key
    exact key
  · unfold xini
    rw [if_pos hi]
    have h1 := xdist_lt ha hi
    by_cases h : i = a
    · subst h
      rw [if_pos rfl, xdist_self]
      exact ⟨Int.le_refl _, by decide⟩
    · rw [if_neg h]
      omega
  · unfold xini
    rw [if_pos ha, if_pos rfl]
  · have e : xWT W f = xWT W (xDm a) := by
      show W.set 69 (.inr (0, xtl 64 f)) = W.set 69 (.inr (0, xtl 64 (xDm a)))
      rw [xJd_eq ha hf hs]
    rw [e]
    exact hF
end XST
theorem xf184_0 : xfetch (xm_t xm184) 0 = some (.iload_n 1, 0, 0, 0) := rfl
theorem xf184_1 : xfetch (xm_t xm184) 1 = some (.invokestatic 181, 174, 1, 0) := rfl
theorem xf184_4 : xfetch (xm_t xm184) 4 = some (.ifCond .eq 28, 32, 0, 0) := rfl
theorem xf184_7 : xfetch (xm_t xm184) 7 = some (.iload_n 2, 0, 0, 0) := rfl
theorem xf184_8 : xfetch (xm_t xm184) 8 = some (.invokestatic 181, 174, 1, 0) := rfl
theorem xf184_11 : xfetch (xm_t xm184) 11 = some (.ifCond .eq 21, 32, 0, 0) := rfl
theorem xf184_14 : xfetch (xm_t xm184) 14 = some (.aload_n 0, 0, 0, 0) := rfl
theorem xf184_15 : xfetch (xm_t xm184) 15 = some (.getfield 32, 10, 12, 0) := rfl
theorem xf184_18 : xfetch (xm_t xm184) 18 = some (.iload_n 1, 0, 0, 0) := rfl
theorem xf184_19 : xfetch (xm_t xm184) 19 = some (.baload, 0, 0, 0) := rfl
theorem xf184_20 : xfetch (xm_t xm184) 20 = some (.ifCond .ne 12, 32, 0, 0) := rfl
theorem xf184_23 : xfetch (xm_t xm184) 23 = some (.aload_n 0, 0, 0, 0) := rfl
theorem xf184_24 : xfetch (xm_t xm184) 24 = some (.getfield 32, 10, 12, 0) := rfl
theorem xf184_27 : xfetch (xm_t xm184) 27 = some (.iload_n 2, 0, 0, 0) := rfl
theorem xf184_28 : xfetch (xm_t xm184) 28 = some (.baload, 0, 0, 0) := rfl
theorem xf184_29 : xfetch (xm_t xm184) 29 = some (.ifCond .eq 5, 34, 0, 0) := rfl
theorem xf184_32 : xfetch (xm_t xm184) 32 = some (.iconst (-1), 0, 0, (-1)) := rfl
theorem xf184_33 : xfetch (xm_t xm184) 33 = some (.ireturn, 0, 0, 0) := rfl
theorem xf184_34 : xfetch (xm_t xm184) 34 = some (.aload_n 0, 0, 0, 0) := rfl
theorem xf184_35 : xfetch (xm_t xm184) 35 = some (.iload_n 1, 0, 0, 0) := rfl
theorem xf184_36 : xfetch (xm_t xm184) 36 = some (.invokevirtual 200, 185, 2, 0) := rfl
theorem xf184_39 : xfetch (xm_t xm184) 39 = some (.aload_n 0, 0, 0, 0) := rfl
theorem xf184_40 : xfetch (xm_t xm184) 40 = some (.getfield 52, 10, 19, 0) := rfl
theorem xf184_43 : xfetch (xm_t xm184) 43 = some (.iload_n 2, 0, 0, 0) := rfl
theorem xf184_44 : xfetch (xm_t xm184) 44 = some (.iaload, 0, 0, 0) := rfl
theorem xf184_45 : xfetch (xm_t xm184) 45 = some (.ldc 196, 0, 0, 100000) := rfl
theorem xf184_47 : xfetch (xm_t xm184) 47 = some (.if_icmp .ge 12, 59, 0, 0) := rfl
theorem xf184_50 : xfetch (xm_t xm184) 50 = some (.aload_n 0, 0, 0, 0) := rfl
theorem xf184_51 : xfetch (xm_t xm184) 51 = some (.getfield 52, 10, 19, 0) := rfl
theorem xf184_54 : xfetch (xm_t xm184) 54 = some (.iload_n 2, 0, 0, 0) := rfl
theorem xf184_55 : xfetch (xm_t xm184) 55 = some (.iaload, 0, 0, 0) := rfl
theorem xf184_56 : xfetch (xm_t xm184) 56 = some (.goto 8, 64, 0, 0) := rfl
theorem xf184_59 : xfetch (xm_t xm184) 59 = some (.aload_n 0, 0, 0, 0) := rfl
theorem xf184_60 : xfetch (xm_t xm184) 60 = some (.iconst 1, 0, 0, 1) := rfl
theorem xf184_61 : xfetch (xm_t xm184) 61 = some (.invokevirtual 158, 161, 2, 0) := rfl
theorem xf184_64 : xfetch (xm_t xm184) 64 = some (.ireturn, 0, 0, 0) := rfl
def xick (a : Nat) : Bool := @decide _ (xd11 (xcf 20 xscA 174 [.inl ((a : Int), (a : Int))] []) (some (some (.inl (1, 1)), [])))
theorem xic0 : (List.range 64).all xick = true := by decide +kernel
theorem xic {a : Nat} (ha : a < 64) {W : XW} : xcf 20 xscA 174 [.inl ((a : Int), (a : Int))] W = some (some (.inl (1, 1)), W) := xcf_mrg W (w := []) (w' := []) (N := xm174) rfl rfl (@of_decide_eq_true _ (xd11 _ _) (List.all_eq_true.mp xic0 a (List.mem_range.mpr ha)))
section XTM2
variable {l : Launch} {D : va_G} {tA : Nat → ClassId} {ex : List Nat}
set_option maxRecDepth 100000 in
set_option maxHeartbeats 4000000 in
theorem xmt_met {W : XW} {g : Nat → Int} (h57 : W[57]? = some xc57) (h64 : W[64]? = some xc64) (h66 : W[66]? = some xc66) (h69 : W[69]? = some (.inr (0, xtl 64 g))) {a b : Nat} (ha : a < 64) (hb : b < 64) : XMet l D vwCl (tysX tA) tA ex (xSTX ++ [xscA]) xSV xNW xNF xTs xm184 [.inr (.inr (1, 57)), .inl ((a : Int), (a : Int)), .inl ((b : Int), (b : Int))] W (some (.inl ((xdist a b : Int), (xdist a b : Int)))) (xWT W (xDm a)) := by
  have hlen : 69 < W.length := (List.getElem?_eq_some_iff.mp h69).1
  have g57 : (xWT W (xDm a))[57]? = some xc57 := xset_get (by decide) h57
  have g69 : (xWT W (xDm a))[69]? = some (.inr (0, xtl 64 (xDm a))) := xset_at hlen
  have hd := xdist_lt ha hb
  refine xmet_ofK x_good (x_tysX tA) (x_tysY tA) (x_tysC tA) x_ok (fun j N as w ro w' => xcf_met j N as w ro w') (j := 184) (w2 := xWT W (xDm a)) (k2 := 0) (n2 := 0) rfl (Nat.le_of_ble_eq_true rfl) ⟨Nat.le_refl _, Nat.le_refl _⟩ (Or.inr rfl) (fun P hP hF => ?_)
  show P (.inl (0, [(0, .inr (.inr (1, 57))), (1, .inl ((a : Int), (a : Int))), (2, .inl ((b : Int), (b : Int)))], [], W, 0, 0))
  refine hP.go (r := .inl (1, [(0, .inr (.inr (1, 57))), (1, .inl ((a : Int), (a : Int))), (2, .inl ((b : Int), (b : Int)))], [.inl ((a : Int), (a : Int))], W, 0, 0)) xf184_0 rfl ?_
  refine hP.go (r := .inl (4, [(0, .inr (.inr (1, 57))), (1, .inl ((a : Int), (a : Int))), (2, .inl ((b : Int), (b : Int)))], [.inl ((1 : Int), (1 : Int))], W, 0, 0)) xf184_1 (sx_calls (N := xm174) (ro := some (.inl ((1 : Int), (1 : Int)))) (w' := W) (k := 0) (n := 0) (by decide) rfl (Nat.le_of_ble_eq_true rfl) (Nat.le_of_ble_eq_true rfl) (Nat.le_of_ble_eq_true rfl) (Nat.le_of_ble_eq_true rfl) (Nat.le_of_ble_eq_true rfl) (Nat.le_of_ble_eq_true rfl) (xic ha)) ?_
  refine hP.go (r := .inl (7, [(0, .inr (.inr (1, 57))), (1, .inl ((a : Int), (a : Int))), (2, .inl ((b : Int), (b : Int)))], [], W, 0, 0)) xf184_4 (sx_if (o := false) rfl) ?_
  refine hP.go (r := .inl (8, [(0, .inr (.inr (1, 57))), (1, .inl ((a : Int), (a : Int))), (2, .inl ((b : Int), (b : Int)))], [.inl ((b : Int), (b : Int))], W, 0, 0)) xf184_7 rfl ?_
  refine hP.go (r := .inl (11, [(0, .inr (.inr (1, 57))), (1, .inl ((a : Int), (a : Int))), (2, .inl ((b : Int), (b : Int)))], [.inl ((1 : Int), (1 : Int))], W, 0, 0)) xf184_8 (sx_calls (N := xm174) (ro := some (.inl ((1 : Int), (1 : Int)))) (w' := W) (k := 0) (n := 0) (by decide) rfl (Nat.le_of_ble_eq_true rfl) (Nat.le_of_ble_eq_true rfl) (Nat.le_of_ble_eq_true rfl) (Nat.le_of_ble_eq_true rfl) (Nat.le_of_ble_eq_true rfl) (Nat.le_of_ble_eq_true rfl) (xic hb)) ?_
  refine hP.go (r := .inl (14, [(0, .inr (.inr (1, 57))), (1, .inl ((a : Int), (a : Int))), (2, .inl ((b : Int), (b : Int)))], [], W, 0, 0)) xf184_11 (sx_if (o := false) rfl) ?_
  refine hP.go (r := .inl (15, [(0, .inr (.inr (1, 57))), (1, .inl ((a : Int), (a : Int))), (2, .inl ((b : Int), (b : Int)))], [.inr (.inr (1, 57))], W, 0, 0)) xf184_14 rfl ?_
  refine hP.go (r := .inl (18, [(0, .inr (.inr (1, 57))), (1, .inl ((a : Int), (a : Int))), (2, .inl ((b : Int), (b : Int)))], [.inr (.inr (1, 64))], W, 0, 0)) xf184_15 (sx_get h57 rfl) ?_
  refine hP.go (r := .inl (19, [(0, .inr (.inr (1, 57))), (1, .inl ((a : Int), (a : Int))), (2, .inl ((b : Int), (b : Int)))], [.inl ((a : Int), (a : Int)), .inr (.inr (1, 64))], W, 0, 0)) xf184_18 rfl ?_
  refine hP.go (r := .inl (20, [(0, .inr (.inr (1, 57))), (1, .inl ((a : Int), (a : Int))), (2, .inl ((b : Int), (b : Int)))], [.inl ((0 : Int), (0 : Int))], W, 0, 0)) xf184_19 (sx_bald h64 (xtl_read ha)) ?_
  refine hP.go (r := .inl (23, [(0, .inr (.inr (1, 57))), (1, .inl ((a : Int), (a : Int))), (2, .inl ((b : Int), (b : Int)))], [], W, 0, 0)) xf184_20 (sx_if (o := false) rfl) ?_
  refine hP.go (r := .inl (24, [(0, .inr (.inr (1, 57))), (1, .inl ((a : Int), (a : Int))), (2, .inl ((b : Int), (b : Int)))], [.inr (.inr (1, 57))], W, 0, 0)) xf184_23 rfl ?_
  refine hP.go (r := .inl (27, [(0, .inr (.inr (1, 57))), (1, .inl ((a : Int), (a : Int))), (2, .inl ((b : Int), (b : Int)))], [.inr (.inr (1, 64))], W, 0, 0)) xf184_24 (sx_get h57 rfl) ?_
  refine hP.go (r := .inl (28, [(0, .inr (.inr (1, 57))), (1, .inl ((a : Int), (a : Int))), (2, .inl ((b : Int), (b : Int)))], [.inl ((b : Int), (b : Int)), .inr (.inr (1, 64))], W, 0, 0)) xf184_27 rfl ?_
  refine hP.go (r := .inl (29, [(0, .inr (.inr (1, 57))), (1, .inl ((a : Int), (a : Int))), (2, .inl ((b : Int), (b : Int)))], [.inl ((0 : Int), (0 : Int))], W, 0, 0)) xf184_28 (sx_bald h64 (xtl_read hb)) ?_
  refine hP.go (r := .inl (34, [(0, .inr (.inr (1, 57))), (1, .inl ((a : Int), (a : Int))), (2, .inl ((b : Int), (b : Int)))], [], W, 0, 0)) xf184_29 (sx_if (o := true) rfl) ?_
  refine hP.go (r := .inl (35, [(0, .inr (.inr (1, 57))), (1, .inl ((a : Int), (a : Int))), (2, .inl ((b : Int), (b : Int)))], [.inr (.inr (1, 57))], W, 0, 0)) xf184_34 rfl ?_
  refine hP.go (r := .inl (36, [(0, .inr (.inr (1, 57))), (1, .inl ((a : Int), (a : Int))), (2, .inl ((b : Int), (b : Int)))], [.inl ((a : Int), (a : Int)), .inr (.inr (1, 57))], W, 0, 0)) xf184_35 rfl ?_
  refine hP.2.2.1 _ (39, [(0, .inr (.inr (1, 57))), (1, .inl ((a : Int), (a : Int))), (2, .inl ((b : Int), (b : Int)))], [], xWT W (xDm a), 0, 0) ⟨.invokevirtual 200, 185, 2, 0, xm185, none, xWT W (xDm a), xf184_36, rfl, xst_met h57 h64 h66 h69 ha, fun cf hc => sx_callv (N := xm185) rfl (Nat.le_of_ble_eq_true rfl) (Nat.le_of_ble_eq_true rfl) (Nat.le_of_ble_eq_true rfl) (Nat.le_of_ble_eq_true rfl) (Nat.le_of_ble_eq_true rfl) (Nat.le_of_ble_eq_true rfl) (xrecv_of h57) hc⟩ ?_
  refine hP.go (r := .inl (40, [(0, .inr (.inr (1, 57))), (1, .inl ((a : Int), (a : Int))), (2, .inl ((b : Int), (b : Int)))], [.inr (.inr (1, 57))], xWT W (xDm a), 0, 0)) xf184_39 rfl ?_
  refine hP.go (r := .inl (43, [(0, .inr (.inr (1, 57))), (1, .inl ((a : Int), (a : Int))), (2, .inl ((b : Int), (b : Int)))], [.inr (.inr (1, 69))], xWT W (xDm a), 0, 0)) xf184_40 (sx_get g57 rfl) ?_
  refine hP.go (r := .inl (44, [(0, .inr (.inr (1, 57))), (1, .inl ((a : Int), (a : Int))), (2, .inl ((b : Int), (b : Int)))], [.inl ((b : Int), (b : Int)), .inr (.inr (1, 69))], xWT W (xDm a), 0, 0)) xf184_43 rfl ?_
  refine hP.go (r := .inl (45, [(0, .inr (.inr (1, 57))), (1, .inl ((a : Int), (a : Int))), (2, .inl ((b : Int), (b : Int)))], [.inl ((xdist a b : Int), (xdist a b : Int))], xWT W (xDm a), 0, 0)) xf184_44 (sx_iald g69 (xtl_read hb)) ?_
  refine hP.go (r := .inl (47, [(0, .inr (.inr (1, 57))), (1, .inl ((a : Int), (a : Int))), (2, .inl ((b : Int), (b : Int)))], [.inl ((100000 : Int), (100000 : Int)), .inl ((xdist a b : Int), (xdist a b : Int))], xWT W (xDm a), 0, 0)) xf184_45 rfl ?_
  refine hP.go (r := .inl (50, [(0, .inr (.inr (1, 57))), (1, .inl ((a : Int), (a : Int))), (2, .inl ((b : Int), (b : Int)))], [], xWT W (xDm a), 0, 0)) xf184_47 (sx_icmp (o := false) (xge_of.trans (by simp <;> omega))) ?_
  refine hP.go (r := .inl (51, [(0, .inr (.inr (1, 57))), (1, .inl ((a : Int), (a : Int))), (2, .inl ((b : Int), (b : Int)))], [.inr (.inr (1, 57))], xWT W (xDm a), 0, 0)) xf184_50 rfl ?_
  refine hP.go (r := .inl (54, [(0, .inr (.inr (1, 57))), (1, .inl ((a : Int), (a : Int))), (2, .inl ((b : Int), (b : Int)))], [.inr (.inr (1, 69))], xWT W (xDm a), 0, 0)) xf184_51 (sx_get g57 rfl) ?_
  refine hP.go (r := .inl (55, [(0, .inr (.inr (1, 57))), (1, .inl ((a : Int), (a : Int))), (2, .inl ((b : Int), (b : Int)))], [.inl ((b : Int), (b : Int)), .inr (.inr (1, 69))], xWT W (xDm a), 0, 0)) xf184_54 rfl ?_
  refine hP.go (r := .inl (56, [(0, .inr (.inr (1, 57))), (1, .inl ((a : Int), (a : Int))), (2, .inl ((b : Int), (b : Int)))], [.inl ((xdist a b : Int), (xdist a b : Int))], xWT W (xDm a), 0, 0)) xf184_55 (sx_iald g69 (xtl_read hb)) ?_
  refine hP.go (r := .inl (64, [(0, .inr (.inr (1, 57))), (1, .inl ((a : Int), (a : Int))), (2, .inl ((b : Int), (b : Int)))], [.inl ((xdist a b : Int), (xdist a b : Int))], xWT W (xDm a), 0, 0)) xf184_56 rfl ?_
  exact hP.go (r := .inr (some (.inl ((xdist a b : Int), (xdist a b : Int))), xWT W (xDm a), 0, 0)) xf184_64 rfl hF
end XTM2
