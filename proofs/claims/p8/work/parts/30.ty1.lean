/-! ===== linear forms over symbols, what is known of them ===== -/
abbrev YL : Type := Int × List (Nat × Int)
/-- what is known of a symbol: (0, lo, hi) an int between bounds; (1, kind, 1 if it may be null) a reference; (2, 1 if it isn't 0, _) a long; (3, _, _) null -/
abbrev YE : Type := Nat × Int × Int
def ysum (r : Nat → Int) : List (Nat × Int) → Int
  | [] => 0
  | q :: l => q.2 * r q.1 + ysum r l
def yev (r : Nat → Int) (x : YL) : Int := x.1 + ysum r x.2
def yins (s : Nat) (c : Int) : List (Nat × Int) → List (Nat × Int)
  | [] => if c = 0 then [] else [(s, c)]
  | q :: l => if q.1 = s then (if q.2 + c = 0 then l else (s, q.2 + c) :: l) else if s < q.1 then (if c = 0 then q :: l else (s, c) :: q :: l) else q :: yins s c l
def yapp (k : Int) : List (Nat × Int) → List (Nat × Int) → List (Nat × Int)
  | [], l => l
  | q :: m, l => yapp k m (yins q.1 (k * q.2) l)
/-- x + k * y -/
def yadd (x : YL) (k : Int) (y : YL) : YL := (x.1 + k * y.1, yapp k y.2 x.2)
def ycst (c : Int) : YL := (c, [])
def ysym (s : Nat) : YL := (0, [(s, 1)])
def yneg (x : YL) : YL := yadd (0, []) (-1) x
theorem yins_sum {r : Nat → Int} {s : Nat} {c : Int} : ∀ {l : List (Nat × Int)}, ysum r (yins s c l) = c * r s + ysum r l
  | [] => by
    unfold yins
    by_cases h : c = 0
    · rw [if_pos h, h, Int.zero_mul]
      rfl
    · rw [if_neg h]
      rfl
  | q :: l => by
    unfold yins
    by_cases h : q.1 = s
    · rw [if_pos h]
      subst h
      have e : (q.2 + c) * r q.1 = q.2 * r q.1 + c * r q.1 := Int.add_mul _ _ _
      by_cases h2 : q.2 + c = 0
      · rw [if_pos h2]
        show ysum r l = c * r q.1 + (q.2 * r q.1 + ysum r l)
        rw [h2, Int.zero_mul] at e
        omega
      · rw [if_neg h2]
        show (q.2 + c) * r q.1 + ysum r l = c * r q.1 + (q.2 * r q.1 + ysum r l)
        omega
    · rw [if_neg h]
      by_cases h2 : s < q.1
      · rw [if_pos h2]
        by_cases h3 : c = 0
        · rw [if_pos h3, h3, Int.zero_mul, Int.zero_add]
        · rw [if_neg h3]
          rfl
      · rw [if_neg h2]
        show q.2 * r q.1 + ysum r (yins s c l) = c * r s + (q.2 * r q.1 + ysum r l)
        rw [yins_sum (l := l)]
        omega
theorem yapp_sum {r : Nat → Int} {k : Int} : ∀ {m l : List (Nat × Int)}, ysum r (yapp k m l) = k * ysum r m + ysum r l
  | [], l => by
    show ysum r l = k * 0 + ysum r l
    rw [Int.mul_zero, Int.zero_add]
  | q :: m, l => by
    show ysum r (yapp k m (yins q.1 (k * q.2) l)) = k * (q.2 * r q.1 + ysum r m) + ysum r l
    rw [yapp_sum (m := m), yins_sum, Int.mul_add, Int.mul_assoc]
    omega
theorem yadd_ev {r : Nat → Int} {x y : YL} {k : Int} : yev r (yadd x k y) = yev r x + k * yev r y := by
  show x.1 + k * y.1 + ysum r (yapp k y.2 x.2) = x.1 + ysum r x.2 + k * (y.1 + ysum r y.2)
  rw [yapp_sum, Int.mul_add]
  omega
theorem ycst_ev {r : Nat → Int} {c : Int} : yev r (ycst c) = c := by
  show c + 0 = c
  omega
theorem ysym_ev {r : Nat → Int} {s : Nat} : yev r (ysym s) = r s := by
  show 0 + (1 * r s + 0) = r s
  omega
theorem yneg_ev {r : Nat → Int} {x : YL} : yev r (yneg x) = -yev r x := by
  unfold yneg
  rw [yadd_ev]
  show 0 + 0 + -1 * yev r x = -yev r x
  omega
/-- a lower bound by the symbols' bounds -/
def ylb (E : List YE) : List (Nat × Int) → Option Int
  | [] => some 0
  | q :: l => match E[q.1]?, ylb E l with
    | some (0, lo, hi), some t => some (t + if 0 ≤ q.2 then q.2 * lo else q.2 * hi)
    | _, _ => none
def yok (E : List YE) (r : Nat → Int) : Prop := ∀ (s : Nat) (lo hi : Int), E[s]? = some (0, lo, hi) → lo ≤ r s ∧ r s ≤ hi
theorem ylb_le {E : List YE} {r : Nat → Int} (hE : yok E r) : ∀ {l : List (Nat × Int)} {t : Int}, ylb E l = some t → t ≤ ysum r l
  | [], t, h => by
    cases h
    exact Int.le_refl _
  | q :: l, t, h => by
    unfold ylb at h
    split at h
    · rename_i lo hi t2 h1 h2
      cases h
      have ih := ylb_le hE h2
      have hb := hE q.1 lo hi h1
      show t2 + (if 0 ≤ q.2 then q.2 * lo else q.2 * hi) ≤ q.2 * r q.1 + ysum r l
      by_cases hq : 0 ≤ q.2
      · rw [if_pos hq]
        have := Int.mul_le_mul_of_nonneg_left hb.1 hq
        omega
      · rw [if_neg hq]
        have := Int.mul_le_mul_of_nonpos_left (show q.2 ≤ 0 by omega) hb.2
        omega
    · cases h
def ynn (E : List YE) (x : YL) : Bool := match ylb E x.2 with
  | some t => decide (0 ≤ x.1 + t)
  | none => false
theorem ynn_ok {E : List YE} {r : Nat → Int} (hE : yok E r) {x : YL} (h : ynn E x = true) : 0 ≤ yev r x := by
  unfold ynn at h
  split at h
  · rename_i t ht
    have h1 := of_decide_eq_true h
    have h2 := ylb_le hE ht
    show 0 ≤ x.1 + ysum r x.2
    omega
  · cases h
/-- by how much a fact is to be taken so that a symbol goes -/
def ymul1 (f : List (Nat × Int)) (q : Nat × Int) : List Int := match f.find? (fun p => p.1 == q.1) with
  | some p => if p.2 ≠ 0 ∧ q.2 % p.2 = 0 ∧ 0 < q.2 / p.2 then [q.2 / p.2] else []
  | none => []
def ymul (x f : List (Nat × Int)) : List Int := (x.map (ymul1 f)).flatten
/-- 0 ≤ x by bounds and at most d facts -/
def ypr (E : List YE) (F : List YL) : Nat → YL → Bool
  | 0, x => ynn E x
  | d + 1, x => ynn E x || F.any (fun f => (ymul x.2 f.2).any (fun m => decide (0 ≤ m) && ypr E F d (yadd x (-m) f)))
theorem ypr_ok {E : List YE} {F : List YL} {r : Nat → Int} (hE : yok E r) (hF : ∀ f ∈ F, 0 ≤ yev r f) : ∀ {d : Nat} {x : YL}, ypr E F d x = true → 0 ≤ yev r x
  | 0, x, h => ynn_ok hE h
  | d + 1, x, h => by
    unfold ypr at h
    rw [Bool.or_eq_true] at h
    rcases h with h | h
    · exact ynn_ok hE h
    · obtain ⟨f, hf, h⟩ := List.any_eq_true.mp h
      obtain ⟨m, _, h⟩ := List.any_eq_true.mp h
      rw [Bool.and_eq_true] at h
      have h1 := of_decide_eq_true h.1
      have h2 := ypr_ok hE hF h.2
      rw [yadd_ev] at h2
      have h3 := Int.mul_nonneg h1 (hF f hf)
      have h4 : -m * yev r f = -(m * yev r f) := Int.neg_mul _ _
      omega
