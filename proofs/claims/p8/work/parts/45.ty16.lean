/-! ===== cuts ===== -/
/-- a cut: where; its locals (each a symbol: number, how many times the symbol the int is, what it is); fields of its locals that are known (place among the locals, field, what it is); facts; a measure; places that are known (the array: place among the locals and fields, the index: place among the locals, what it is) -/
abbrev YCut : Type := Nat × List (Nat × Int × YE) × List (Nat × Nat × YE) × List YL × YL × List (Nat × Nat × YE)
abbrev yc_l (C : YCut) : List (Nat × Int × YE) := C.2.1
abbrev yc_g (C : YCut) : List (Nat × Nat × YE) := C.2.2.1
abbrev yc_f (C : YCut) : List YL := C.2.2.2.1
abbrev yc_m (C : YCut) : YL := C.2.2.2.2.1
abbrev yc_a (C : YCut) : List (Nat × Nat × YE) := C.2.2.2.2.2
def ycv (d : Int) (e : YE) (k : Nat) : YV := if e.1 = 0 then (if e.2.1 = e.2.2 then .inl (ycst (d * e.2.1)) else .inl (0, [(k, d)])) else ysv e k
def ymk : Nat → List (Nat × Int × YE) → List (Nat × YV)
  | _, [] => []
  | k, q :: t => (q.1, ycv q.2.1 q.2.2 k) :: ymk (k + 1) t
def ymg : Nat → List (Nat × Nat × YE) → List ((Nat × Nat) × YV)
  | _, [] => []
  | k, q :: t => ((q.1, q.2.1), ysv q.2.2 k) :: ymg (k + 1) t
def yma : Nat → List (Nat × Nat × YE) → List ((Nat × YL) × YV)
  | _, [] => []
  | k, q :: t => ((q.1, ysym q.2.1), ysv q.2.2 k) :: yma (k + 1) t
/-- the state at a cut -/
def yst (C : YCut) : YS := (C.1, ymk 0 (yc_l C), [], (yc_l C).map (fun q => q.2.2) ++ ((yc_g C).map (fun q => q.2.2) ++ (yc_a C).map (fun q => q.2.2)), yc_f C, ymg (yc_l C).length (yc_g C), yma ((yc_l C).length + (yc_g C).length) (yc_a C), [])
def ydvs (d : Int) : List (Nat × Int) → Option (List (Nat × Int))
  | [] => some []
  | q :: t => match ydvs d t with
    | some u => if q.2 % d = 0 then some ((q.1, q.2 / d) :: u) else none
    | none => none
/-- x as d times something -/
def ydvl (d : Int) (x : YL) : Option YL := if d = 1 then some x else if d = 0 then none else (match ydvs d x.2 with
  | some u => if x.1 % d = 0 then some (x.1 / d, u) else none
  | none => none)
theorem ydvs_ok {r : Nat → Int} {d : Int} : ∀ {t u : List (Nat × Int)}, ydvs d t = some u → d * ysum r u = ysum r t
  | [], u, h => by
    cases h
    exact Int.mul_zero d
  | q :: t, u, h => by
    unfold ydvs at h
    split at h
    · rename_i u' hu
      split at h
      · rename_i hq
        cases h
        have ih := ydvs_ok (r := r) hu
        show d * (q.2 / d * r q.1 + ysum r u') = q.2 * r q.1 + ysum r t
        rw [Int.mul_add, ih, ← Int.mul_assoc, Int.mul_ediv_cancel' (Int.dvd_of_emod_eq_zero hq)]
      · cases h
    · cases h
theorem ydvl_ok {r : Nat → Int} {d : Int} {x y : YL} (h : ydvl d x = some y) : d * yev r y = yev r x := by
  unfold ydvl at h
  split at h
  · rename_i h1
    cases h
    rw [h1, Int.one_mul]
  · split at h
    · cases h
    · split at h
      · rename_i u hu
        split at h
        · rename_i hx
          cases h
          show d * (x.1 / d + ysum r u) = x.1 + ysum r x.2
          rw [Int.mul_add, ydvs_ok hu, Int.mul_ediv_cancel' (Int.dvd_of_emod_eq_zero hx)]
        · cases h
      · cases h
/-- the values of a cut's symbols -/
def ymt (K : YF) (lv : List (Nat × YV)) : List (Nat × Int × YE) → Option (List YV)
  | [] => some []
  | q :: t => match yk_get lv q.1, ymt K lv t with
    | some (.inl x), some vs => if q.2.2.1 = 0 ∧ 1 ≤ q.2.1 then (match ydvl q.2.1 x with
      | some y => if yeck K q.2.2 (.inl y) = true then some (.inl y :: vs) else none
      | none => none) else none
    | some v, some vs => if q.2.2.1 ≠ 0 ∧ yeck K q.2.2 v = true then some (v :: vs) else none
    | _, _ => none
/-- the symbol of a value -/
def ysy (K : YF) : YV → Option Nat
  | .inr (.inr (0, s)) => some s
  | .inl (0, [(s, 1)]) => (match (yf_e K)[s]? with
    | some (0, _, _) => some s
    | _ => none)
  | _ => none
def ymtg (K : YF) (vl : List YV) : List (Nat × Nat × YE) → Option (List YV)
  | [] => some []
  | q :: t => match vl[q.1]?, ymtg K vl t with
    | some v, some vs => (match ysy K v with
      | some s => (match (yf_m K).find? (fun p => decide (p.1 = (s, q.2.1))) with
        | some p => if yeck K q.2.2 p.2 = true then some (p.2 :: vs) else none
        | none => if q.2.1 = 103 ∧ q.2.2 = (0, 1, 1) ∧ (yd103 K s && decide (v = .inr (.inr (0, s)))) = true then some (.inl (ycst 1) :: vs) else none)
      | none => none)
    | _, _ => none
def ymta (K : YF) (vl vg : List YV) : List (Nat × Nat × YE) → Option (List YV)
  | [] => some []
  | q :: t => match (vl ++ vg)[q.1]?, vl[q.2.1]?, ymta K vl vg t with
    | some (.inr (.inr (0, s))), some (.inl x), some vs => (match (yf_a K).find? (fun p => decide (p.1 = (s, x))) with
      | some p => if yeck K q.2.2 p.2 = true then some (p.2 :: vs) else none
      | none => none)
    | _, _, _ => none
/-- the values of numbers: of an int what the symbol is -/
def yval (r : YR) : YV → XV
  | .inl x => .inl (yev (yi r) x, yev (yi r) x)
  | .inr (.inl x) => .inr (.inl (some (yev (yi r) x)))
  | .inr (.inr (0, s)) => r s
  | .inr (.inr (2, _)) => .inr (.inr (0, 0))
  | .inr (.inr (_, j)) => .inr (.inr (2, j))
theorem yval_of {r : YR} : ∀ {v : YV} {x : XV}, yvin r v x → x = yval r v
  | .inl _, _, h => h.1
  | .inr (.inl _), _, h => h.1
  | .inr (.inr (0, _)), _, h => h.1
  | .inr (.inr (1, _)), _, h => h
  | .inr (.inr (2, _)), _, h => h
  | .inr (.inr (_ + 3, _)), _, h => h
def yvl (r : YR) (vs : List YV) : YR := fun k => match vs[k]? with
  | some v => yval r v
  | none => .inr (.inr (0, 0))
