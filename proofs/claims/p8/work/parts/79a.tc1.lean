/-! ===== rows and texts: what the two objects hold of them ===== -/
/-- n places from b on are laid, one after the other -/
def zfl (es : List XV) (b : Nat) (g : Nat → XV) : Nat → List XV
  | 0 => es
  | n + 1 => (zfl es b g n).set (b + n) (g n)
theorem zfl_len {es : List XV} {b : Nat} {g : Nat → XV} : ∀ {n : Nat}, (zfl es b g n).length = es.length
  | 0 => rfl
  | n + 1 => by
    show ((zfl es b g n).set (b + n) (g n)).length = es.length
    rw [List.length_set]
    exact zfl_len
theorem zfl_in {es : List XV} {b : Nat} {g : Nat → XV} : ∀ {n i : Nat}, i < n → b + i < es.length → (zfl es b g n)[b + i]? = some (g i)
  | 0, _, h, _ => by omega
  | n + 1, i, h, hl => by
    show ((zfl es b g n).set (b + n) (g n))[b + i]? = _
    by_cases e : i = n
    · subst e
      exact List.getElem?_set_self (by rw [zfl_len]; exact hl)
    · rw [List.getElem?_set_ne (by omega)]
      exact zfl_in (by omega) hl
theorem zfl_out {es : List XV} {b : Nat} {g : Nat → XV} : ∀ {n i : Nat}, (i < b ∨ b + n ≤ i) → (zfl es b g n)[i]? = es[i]?
  | 0, _, _ => rfl
  | n + 1, i, h => by
    show ((zfl es b g n).set (b + n) (g n))[i]? = _
    rw [List.getElem?_set_ne (by omega)]
    exact zfl_out (by omega)
theorem zself {w : XW} {q : Nat} {c : XC} (h : w[q]? = some c) : w.set q c = w := by
  apply List.ext_getElem?
  intro i
  by_cases e : q = i
  · subst e
    rw [List.getElem?_set_self (List.getElem?_eq_some_iff.mp h).1, h]
  · rw [List.getElem?_set_ne e]
/-- a row there is (or none), as a size and places from b on -/
def zrep (o : Option (List Int)) (z : Int) (es : List XV) (b : Nat) : Prop := match o with
  | none => z < 0
  | some L => z = (L.length : Int) ∧ L.length ≤ 40 ∧ ∀ (j : Nat) (v : Int), L[j]? = some v → es[b + j]? = some (.inl (v, v))
theorem zrep_eq {o : Option (List Int)} {z : Int} {es es' : List XV} {b : Nat} (h : zrep o z es b) (he : ∀ j : Nat, j < 40 → es'[b + j]? = es[b + j]?) : zrep o z es' b := by
  match o, h with
  | none, h => exact h
  | some L, ⟨h1, h2, h3⟩ =>
    refine ⟨h1, h2, fun j v hj => ?_⟩
    have := (List.getElem?_eq_some_iff.mp hj).1
    rw [he j (by omega)]
    exact h3 j v hj
theorem zrep_anew {es : List XV} {b n m : Nat} {v : Int} (hn : n ≤ m) (h40 : n ≤ 40) (hl : b + m ≤ es.length) : zrep (some (List.replicate n v)) (n : Int) (zfl es b (fun _ => .inl (v, v)) m) b := by
  refine ⟨by rw [List.length_replicate], by rw [List.length_replicate]; exact h40, fun j x hj => ?_⟩
  rw [List.getElem?_replicate] at hj
  split at hj
  · cases hj
    exact zfl_in (by omega) (by omega)
  · cases hj
theorem zrep_set {L : List Int} {z : Int} {es : List XV} {b i : Nat} {v : Int} (h : zrep (some L) z es b) (hi : i < L.length) (hl : b + i < es.length) : zrep (some (L.set i v)) z (es.set (b + i) (.inl (v, v))) b := by
  obtain ⟨h1, h2, h3⟩ := h
  refine ⟨by rw [List.length_set]; exact h1, by rw [List.length_set]; exact h2, fun j x hj => ?_⟩
  by_cases e : i = j
  · subst e
    rw [List.getElem?_set_self hi] at hj
    cases hj
    exact List.getElem?_set_self hl
  · rw [List.getElem?_set_ne e] at hj
    rw [List.getElem?_set_ne (by omega)]
    exact h3 j x hj
/-- what the rows and texts are: 0 to 5 the rows, 6 to 9 the texts -/
abbrev ZS : Type := Nat → Option (List Int)
def zup (S : ZS) (s : Nat) (o : Option (List Int)) : ZS := fun k => if k = s then o else S k
theorem zup_at {S : ZS} {s : Nat} {o : Option (List Int)} : zup S s o s = o := if_pos rfl
theorem zup_ne {S : ZS} {s k : Nat} {o : Option (List Int)} (h : k ≠ s) : zup S s o k = S k := if_neg h
abbrev zr1 : List XV := [.inr (.inr (1, 25)), .inr (.inr (1, 27)), .inr (.inr (1, 29)), .inr (.inr (1, 31)), .inr (.inr (1, 33)), .inr (.inr (1, 35))]
abbrev zr2 : List XV := [.inr (.inr (1, 37)), .inr (.inr (1, 39)), .inr (.inr (1, 41)), .inr (.inr (1, 43))]
/-- one row of the class -/
def zCs (w : XW) (s : Nat) (o : Option (List Int)) : Prop := ∃ z es, w[25 + 2 * s]? = some (.inl (4, [.inr (.inr (1, 26 + 2 * s)), .inl (z, z)])) ∧ w[26 + 2 * s]? = some (.inr (0, es)) ∧ es.length = 40 ∧ zrep o z es 0
def zCA (w : XW) (S : ZS) : Prop := w[1]? = some (.inr (3, zr1)) ∧ w[2]? = some (.inr (3, zr2)) ∧ ∀ s, s < 10 → zCs w s (S s)
/-- rows or texts of the model -/
def zMB (w : XW) (T : ZS) (i j base B : Nat) : Prop := ∃ sz es, w[i]? = some (.inr (0, sz)) ∧ w[j]? = some (.inr (0, es)) ∧ sz.length = B ∧ es.length = 40 * B ∧ ∀ s, s < B → ∃ z, sz[s]? = some (.inl (z, z)) ∧ zrep (T (base + s)) z es (40 * s)
def zMA (w : XW) (T : ZS) : Prop := zMB w T 59 60 0 6 ∧ zMB w T 62 63 6 4
/-- kinds as they were behind both constructors, and cells made since -/
def zK (ks : List Nat) : Prop := ∃ tl, ks = yKS0 ++ tl ∧ ∀ k ∈ tl, yfresh k = true
theorem zK.app {ks tl : List Nat} (h : zK ks) (ht : ∀ k ∈ tl, yfresh k = true) : zK (ks ++ tl) := by
  obtain ⟨t, e, h⟩ := h
  refine ⟨t ++ tl, by rw [e, List.append_assoc], fun k hk => ?_⟩
  rcases List.mem_append.mp hk with hk | hk
  · exact h k hk
  · exact ht k hk
theorem zK.at {ks : List Nat} (h : zK ks) {i k : Nat} (hi : yKS0[i]? = some k) : ks[i]? = some k := by
  obtain ⟨t, e, _⟩ := h
  rw [e, List.getElem?_append_left (List.getElem?_eq_some_iff.mp hi).1]
  exact hi
theorem zK.un {ks : List Nat} (h : zK ks) {p k q : Nat} (hf : yfresh k = false) (hu : ∀ p', yKS0[p']? = some k → p' = q) (hp : ks[p]? = some k) : p = q := by
  obtain ⟨t, e, ht⟩ := h
  rw [e] at hp
  by_cases hl : p < yKS0.length
  · rw [List.getElem?_append_left hl] at hp
    exact hu p hp
  · rw [List.getElem?_append_right (by omega)] at hp
    rw [ht k (List.mem_of_getElem? hp)] at hf
    cases hf
theorem zu_1 {p : Nat} (h : yKS0[p]? = some 1) : p = 1 := of_decide_eq_true (yat_ok (f := fun p => decide (p = 1)) (by decide +kernel) h)
theorem zu_2 {p : Nat} (h : yKS0[p]? = some 2) : p = 2 := of_decide_eq_true (yat_ok (f := fun p => decide (p = 2)) (by decide +kernel) h)
theorem zu_32 {p : Nat} (h : yKS0[p]? = some 32) : p = 59 := of_decide_eq_true (yat_ok (f := fun p => decide (p = 59)) (by decide +kernel) h)
theorem zu_33 {p : Nat} (h : yKS0[p]? = some 33) : p = 60 := of_decide_eq_true (yat_ok (f := fun p => decide (p = 60)) (by decide +kernel) h)
theorem zu_34 {p : Nat} (h : yKS0[p]? = some 34) : p = 61 := of_decide_eq_true (yat_ok (f := fun p => decide (p = 61)) (by decide +kernel) h)
theorem zu_35 {p : Nat} (h : yKS0[p]? = some 35) : p = 62 := of_decide_eq_true (yat_ok (f := fun p => decide (p = 62)) (by decide +kernel) h)
theorem zu_36 {p : Nat} (h : yKS0[p]? = some 36) : p = 63 := of_decide_eq_true (yat_ok (f := fun p => decide (p = 63)) (by decide +kernel) h)
theorem zko {s : Nat} (h : s < 10) : yKS0[25 + 2 * s]? = some 3 := by
  have : s = 0 ∨ s = 1 ∨ s = 2 ∨ s = 3 ∨ s = 4 ∨ s = 5 ∨ s = 6 ∨ s = 7 ∨ s = 8 ∨ s = 9 := by omega
  rcases this with rfl | rfl | rfl | rfl | rfl | rfl | rfl | rfl | rfl | rfl <;> rfl
theorem zka {s : Nat} (h : s < 10) : yKS0[26 + 2 * s]? = some 4 := by
  have : s = 0 ∨ s = 1 ∨ s = 2 ∨ s = 3 ∨ s = 4 ∨ s = 5 ∨ s = 6 ∨ s = 7 ∨ s = 8 ∨ s = 9 := by omega
  rcases this with rfl | rfl | rfl | rfl | rfl | rfl | rfl | rfl | rfl | rfl <;> rfl
theorem zr1_at {r : Nat} (h : r < 6) : zr1[r]? = some (.inr (.inr (1, 25 + 2 * r))) := by
  have : r = 0 ∨ r = 1 ∨ r = 2 ∨ r = 3 ∨ r = 4 ∨ r = 5 := by omega
  rcases this with rfl | rfl | rfl | rfl | rfl | rfl <;> rfl
theorem zr2_at {r : Nat} (h : r < 4) : zr2[r]? = some (.inr (.inr (1, 25 + 2 * (6 + r)))) := by
  have : r = 0 ∨ r = 1 ∨ r = 2 ∨ r = 3 := by omega
  rcases this with rfl | rfl | rfl | rfl <;> rfl
theorem zread {es : List XV} {r : Nat} {v : XV} (h : es[r]? = some v) : xread es ((r : Int), (r : Int)) = some v := by
  have hl := (List.getElem?_eq_some_iff.mp h).1
  unfold xread
  rw [if_pos ⟨by show (0 : Int) ≤ (r : Int); omega, by show (r : Int) < (es.length : Int); omega⟩, if_pos rfl]
  show es[((r : Nat) : Int).toNat]? = _
  rw [Int.toNat_natCast]
  exact h
theorem zwrite {es : List XV} {r : Nat} {v : XV} (h : r < es.length) : xwrite es ((r : Int), (r : Int)) v = some (es.set r v) := by
  unfold xwrite
  rw [if_pos ⟨by show (0 : Int) ≤ (r : Int); omega, by show (r : Int) < (es.length : Int); omega⟩, if_pos rfl]
  show some (es.set ((r : Nat) : Int).toNat v) = _
  rw [Int.toNat_natCast]
theorem z40 {r : Nat} (h : r < 6) : xe2 (fun x y => x * y) (40, 40) ((r : Int), (r : Int)) = (((40 * r : Nat) : Int), ((40 * r : Nat) : Int)) := by
  have : r = 0 ∨ r = 1 ∨ r = 2 ∨ r = 3 ∨ r = 4 ∨ r = 5 := by omega
  rcases this with rfl | rfl | rfl | rfl | rfl | rfl <;> rfl
theorem zle_of {x y : Int} : xcmp .le (x, x) (y, y) = some (decide (x ≤ y)) := by
  show xno (xlt (y, y) (x, x)) = _
  rw [xlt_of]
  by_cases h : y < x
  · simp [h, xno, Int.not_le.mpr h]
  · simp [h, xno, Int.not_lt.mp h]
/-- the outcome of a comparison -/
theorem zcmp {c : ClassFile.Cond} {p q : Int × Int} {o o' : Bool} (h : xcmp c p q = some o) (ho : o = o') : xcmp c p q = some o' := by
  rw [h, ho]
section XG
variable {cf : XF} {MT : Nat → Option XM} {FT : Nat → Nat → Option FieldType} {FD : Nat → Option (List XV)} {TY : Nat → Option FieldType} {TC : Nat → Option Nat} {exc : List (List XV)} {M : XM} {pc : Nat} {lv : XL} {st : List XV} {w : XW} {k n : Nat}
theorem sx_aald {a b : Nat} {z : Int} {q : Nat} {es : List XV} {i : Int × Int} {v : Nat × Nat} (hw : w[q]? = some (.inr (3, es))) (hv : xread es i = some (.inr (.inr v))) : xins cf MT FT FD TY TC exc M .aaload a b z pc lv (.inl i :: .inr (.inr (1, q)) :: st) w k n = some (.inl (pc + 1, lv, .inr (.inr v) :: st, w, k, n)) := by
  simp only [xins, xh_ald, xarr, hw, if_true, hv, true_or, xkd]
theorem sx_i2l {a b : Nat} {z x : Int} : xins cf MT FT FD TY TC exc M .i2l a b z pc lv (.inl (x, x) :: st) w k n = some (.inl (pc + 1, lv, .inr (.inl (some x)) :: st, w, k, n)) := by
  simp only [xins, xh_i2l, if_true]
theorem sx_ldiv {a b : Nat} {z x y : Int} (hy : y ≠ 0) : xins cf MT FT FD TY TC exc M .ldiv a b z pc lv (.inr (.inl (some y)) :: .inr (.inl (some x)) :: st) w k n = some (.inl (pc + 1, lv, .inr (.inl (some (Int64.ofInt x / Int64.ofInt y).toInt)) :: st, w, k, n)) := by
  simp only [xins, xh_ldiv, xl2]
  rw [if_pos hy]
theorem sx_imul {a b : Nat} {z : Int} {x y u : Int × Int} (h : xe2 (fun x y => x * y) x y = u) : xins cf MT FT FD TY TC exc M .imul a b z pc lv (.inl y :: .inl x :: st) w k n = some (.inl (pc + 1, lv, .inl u :: st, w, k, n)) := by
  rw [← h]
  rfl
theorem sx_isub {a b : Nat} {z : Int} {x y : Int} (h : -2147483648 ≤ x - y ∧ x - y ≤ 2147483647) : xins cf MT FT FD TY TC exc M .isub a b z pc lv (.inl (y, y) :: .inl (x, x) :: st) w k n = some (.inl (pc + 1, lv, .inl (x - y, x - y) :: st, w, k, n)) := by
  show some (Sum.inl (pc + 1, lv, .inl (xsub (x, x) (y, y)) :: st, w, k, n)) = _
  unfold xsub
  rw [if_pos h]
theorem sx_bin {a b : Nat} {z : Int} {i : Instr} {f : Int × Int → Int × Int → Int × Int} {x y u : Int × Int} (hi : xins cf MT FT FD TY TC exc M i a b z pc lv (.inl y :: .inl x :: st) w k n = xh_bin f pc lv (.inl y :: .inl x :: st) w k n) (h : f x y = u) : xins cf MT FT FD TY TC exc M i a b z pc lv (.inl y :: .inl x :: st) w k n = some (.inl (pc + 1, lv, .inl u :: st, w, k, n)) := by
  rw [hi, ← h]
  rfl
end XG
theorem zadd {x y u : Int} (h : x + y = u) (hb : -2147483648 ≤ u ∧ u ≤ 2147483647) : xadd (x, x) (y, y) = (u, u) := by
  subst h
  unfold xadd
  rw [if_pos hb]
