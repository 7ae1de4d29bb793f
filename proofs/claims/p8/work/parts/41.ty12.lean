/-! ===== contracts of the typed layer ===== -/
/-- one way in which a method may answer: nothing, something of a kind, or a linear form of its arguments; with facts of its arguments; and what a bit of one is -/
abbrev YA : Type := Option (YE ⊕ YL) × List YL × Option (Nat × Nat × Int)
/-- arguments; fields of theirs that facts may name, and facts that must hold; what is done to the world (0 anything, 1 nothing, 2 nothing to rows, 3 nothing but to the times); the ways to answer -/
abbrev YC : Type := List YE × (List (Nat × Nat) × List YL) × Nat × List YA
def yargs (ks : List Nat) : List YE → List XV → Prop
  | [], l => l = []
  | e :: es, l => ∃ v l', l = v :: l' ∧ yein ks e v ∧ yargs ks es l'
def ynum (x : XV) : Int := match x with
  | .inl q => q.1
  | .inr (.inl (some z)) => z
  | _ => 0
/-- the arguments' numbers -/
def ynu (as : List XV) (i : Nat) : Int := match as[i]? with
  | some x => ynum x
  | none => 0
/-- the fields named -/
def yghr (ks : List Nat) (w : XW) (as : List XV) : List (Nat × Nat) → List XV → Prop
  | [], gs => gs = []
  | q :: G, gs => ∃ x gs', gs = x :: gs' ∧ (∃ b, as[q.1]? = some b ∧ ygf ks w b q.2 x) ∧ yghr ks w as G gs'
def ybt (nu : Nat → Int) : Option (Nat × Nat × Int) → Prop
  | none => True
  | some q => ybit (nu q.1) (nu q.2.1) = q.2.2
def yans (ks : List Nat) (nu : Nat → Int) : Option (YE ⊕ YL) → Option XV → Prop
  | none, o => o = none
  | some (.inl e), o => ∃ x, o = some x ∧ yein ks e x
  | some (.inr x), o => o = some (.inl (yev nu x, yev nu x)) ∧ yrg (yev nu x)
def ycont (l : Launch) (D : va_G) (cl : List vw_C) (tys : List (ClassId × FieldType)) (tA : Nat → ClassId) (ex : List Nat) (exc : List (List XV)) (SV : List (String × String × String × Nat)) (NW : List (String × Nat × MethodName × String)) (NF : List (String × Nat × String × String × String × String)) (Ts : List Cond) (KD : Nat → Option YK) (N : XM) (C : YC) : Prop := ∀ (ks : List Nat) (as : List XV) (w : XW) (gs : List XV), yargs ks C.1 as → yheap KD ks w → yghr ks w as C.2.1.1 gs → (∀ g ∈ C.2.1.2, 0 ≤ yev (ynu (as ++ gs)) g) → ∃ ro w', XMet l D cl tys tA ex exc SV NW NF Ts N as w ro w' ∧ yheap KD ks w' ∧ (C.2.2.1 = 1 → w' = w) ∧ (C.2.2.1 = 2 → yrows ks w w') ∧ (C.2.2.1 = 3 → yfix ks w w') ∧ (C.2.2.1 = 4 → yibs ks w w') ∧ ∃ A ∈ C.2.2.2, yans ks (ynu (as ++ gs)) A.1 ro ∧ (∀ g ∈ A.2.1, 0 ≤ yev (ynu (as ++ gs)) g) ∧ ybt (ynu (as ++ gs)) A.2.2
/-- the arguments as linear forms (of a reference: 0) -/
def ylins : List YV → List YL
  | [] => []
  | .inl x :: l => x :: ylins l
  | .inr (.inl x) :: l => x :: ylins l
  | _ :: l => ycst 0 :: ylins l
def ysbs (T : List YL) : List (Nat × Int) → YL → YL
  | [], acc => acc
  | q :: l, acc => match T[q.1]? with
    | some x => ysbs T l (yadd acc q.2 x)
    | none => ysbs T l acc
def ysbst (T : List YL) (x : YL) : YL := ysbs T x.2 (ycst x.1)
theorem ysbs_ev {r nu : Nat → Int} {T : List YL} (h : ∀ (i : Nat) (x : YL), T[i]? = some x → yev r x = nu i) : ∀ {l : List (Nat × Int)} {acc : YL}, (∀ q ∈ l, q.1 < T.length) → yev r (ysbs T l acc) = yev r acc + ysum nu l
  | [], acc, _ => by
    show yev r acc = yev r acc + 0
    omega
  | q :: l, acc, hl => by
    have hq := hl q List.mem_cons_self
    unfold ysbs
    obtain ⟨x, hx⟩ : ∃ x, T[q.1]? = some x := ⟨_, List.getElem?_eq_getElem hq⟩
    rw [hx]
    dsimp only
    rw [ysbs_ev h (fun p hp => hl p (List.mem_cons_of_mem _ hp)), yadd_ev, h q.1 x hx]
    show yev r acc + q.2 * nu q.1 + ysum nu l = yev r acc + (q.2 * nu q.1 + ysum nu l)
    omega
theorem ysbst_ev {r nu : Nat → Int} {T : List YL} (h : ∀ (i : Nat) (x : YL), T[i]? = some x → yev r x = nu i) {x : YL} (hl : ylin T.length x = true) : yev r (ysbst T x) = yev nu x := by
  unfold ysbst
  rw [ysbs_ev h (fun q hq => of_decide_eq_true (List.all_eq_true.mp hl q hq)), ycst_ev]
  rfl
theorem yvin_num {r : YR} : ∀ {v : YV} {x : XV}, yvin r v x → ∀ {y : YL}, ylins [v] = [y] → (ykd v = 2 ∨ yev (yi r) y = ynum x)
  | .inl a, u, h, y, e => by
    cases e
    rw [h.1]
    exact Or.inr rfl
  | .inr (.inl a), u, h, y, e => by
    cases e
    rw [h.1]
    exact Or.inr rfl
  | .inr (.inr a), _, _, _, _ => Or.inl rfl
theorem ylins_ok {r : YR} : ∀ {vs : List YV} {as : List XV}, ystin r vs as → (ylins vs).length = as.length ∧ ∀ (i : Nat) (x : YL), (ylins vs)[i]? = some x → yev (yi r) x = ynu as i
  | [], as, h => by
    have h : as = [] := h
    subst h
    exact ⟨rfl, fun i x hx => by simp [ylins] at hx⟩
  | v :: vs, _, ⟨u, l', e, h1, h2⟩ => by
    subst e
    obtain ⟨i1, i2⟩ := ylins_ok h2
    have tl : ∀ (y : YL), yev (yi r) y = ynum u → (ylins (v :: vs) = y :: ylins vs) → (ylins (v :: vs)).length = (u :: l').length ∧ ∀ (i : Nat) (x : YL), (ylins (v :: vs))[i]? = some x → yev (yi r) x = ynu (u :: l') i := fun y hy he => by
      rw [he]
      refine ⟨by rw [List.length_cons, List.length_cons, i1], fun i x hx => ?_⟩
      match i, hx with
      | 0, hx =>
        rw [List.getElem?_cons_zero] at hx
        cases hx
        exact hy
      | i + 1, hx =>
        rw [List.getElem?_cons_succ] at hx
        rw [i2 i x hx]
        unfold ynu
        rw [List.getElem?_cons_succ]
    match v, h1 with
    | .inl a, h1 => exact tl a (by rw [h1.1]; rfl) rfl
    | .inr (.inl a), h1 => exact tl a (by rw [h1.1]; rfl) rfl
    | .inr (.inr (0, s)), h1 =>
      obtain ⟨_, q, hq⟩ := h1
      exact tl (ycst 0) (by rw [hq, ycst_ev]; rfl) rfl
    | .inr (.inr (1, j)), h1 =>
      have h1 : u = .inr (.inr (2, j)) := h1
      exact tl (ycst 0) (by rw [h1, ycst_ev]; rfl) rfl
    | .inr (.inr (2, _)), h1 =>
      have h1 : u = .inr (.inr (0, 0)) := h1
      exact tl (ycst 0) (by rw [h1, ycst_ev]; rfl) rfl
    | .inr (.inr (_ + 3, j)), h1 =>
      have h1 : u = .inr (.inr (2, j)) := h1
      exact tl (ycst 0) (by rw [h1, ycst_ev]; rfl) rfl
def yfita (K : YF) : List YE → List YV → Bool
  | [], [] => true
  | e :: es, v :: vs => yeck K e v && yfita K es vs
  | _, _ => false
theorem yfita_ok {ks : List Nat} {w : XW} {r : YR} {K : YF} (h : yknow ks w r K) : ∀ {es : List YE} {vs : List YV} {as : List XV}, yfita K es vs = true → ystin r vs as → yargs ks es as
  | [], [], as, _, hs => hs
  | e :: es, v :: vs, _, hf, ⟨u, l', e1, h1, h2⟩ => by
    have hf : (yeck K e v && yfita K es vs) = true := hf
    rw [Bool.and_eq_true] at hf
    exact ⟨u, l', e1, yeck_ok h h1 hf.1, yfita_ok h hf.2 h2⟩
  | [], _ :: _, _, hf, _ => by cases hf
  | _ :: _, [], _, hf, _ => by cases hf
/-- a number -/
def yisn (K : YF) (s : Nat) : Bool := match (yf_e K)[s]? with
  | some (0, _, _) => true
  | some (2, _, _) => true
  | _ => false
/-- behind a call: what is known of the world goes, unless it stays -/
def ykp (mo : Nat) (K : YF) : YF := if mo = 1 then K else if mo = 3 then (yf_e K, yf_f K, (yf_m K).filter (fun q => decide (q.1.2 ≠ 106)), (yf_a K).filter (fun q => yisn K q.1.1 || (match (yf_e K)[q.1.1]? with
  | some (1, k, _) => decide (k.toNat ≠ 42)
  | _ => false)), yf_l K) else (yf_e K, yf_f K, (if mo = 2 then (yf_m K).filter (fun q => decide (q.1.2 ≠ 103 ∧ q.1.2 ≠ 106) && ygk K q.1.1) else []), (yf_a K).filter (fun q => yisn K q.1.1), yf_l K)
/-- all bits are 0 of a number that isn't -/
def yall0 (K : YF) (s : Nat) : Bool := (match (yf_e K)[s]? with
  | some (2, n, _) => decide (n = 1)
  | _ => false) && (List.range 64).all (fun (k : Nat) => (yf_a K).any (fun q => decide (q.1.1 = s) && (decide (q.1.2 = ycst (k : Int)) && decide (q.2 = .inl (ycst 0)))))
/-- a bit is known -/
def ybadd (K : YF) (T : List YL) : Option (Nat × Nat × Int) → Option YF
  | none => some K
  | some q => match T[q.1]?, T[q.2.1]? with
    | some x, some y => if x.2 = [] ∧ y.2 = [] then (if ybit x.1 y.1 = q.2.2 then some K else none) else (match x with
      | (0, [(s, 1)]) => if (yisn K s && ylin (yf_e K).length y) = true then (if (decide (q.2.2 = 0 ∧ y = ycst 63) && yall0 (yf_e K, yf_f K, yf_m K, ((s, y), .inl (ycst q.2.2)) :: yf_a K, yf_l K) s) = true then none else some (yf_e K, yf_f K, yf_m K, ((s, y), .inl (ycst q.2.2)) :: yf_a K, yf_l K)) else some K
      | _ => some K)
    | _, _ => some K
/-- the states behind a call, one for each way to answer -/
def ycalls (Y : YS) (pc : Nat) (T : List YL) (mo : Nat) : List YA → Option (List YO)
  | [] => some []
  | A :: As => match (if A.2.1.all (ylin T.length) = true then (match yasms (ykp mo Y.2.2.2) (A.2.1.map (ysbst T)) with
      | none => some []
      | some K0 => (match ybadd K0 T A.2.2 with
        | none => some []
        | some K => (match A.1 with
          | none => some [(.inl (pc, Y.2.1, Y.2.2.1, K) : YO)]
          | some (.inl e) => (match yfr (Y.1, Y.2.1, Y.2.2.1, K) e with
            | some (v, K2) => some [.inl (pc, Y.2.1, v :: Y.2.2.1, K2)]
            | none => none)
          | some (.inr x) => if ylin T.length x = true then some [.inl (pc, Y.2.1, .inl (ysbst T x) :: Y.2.2.1, K)] else none))) else none), ycalls Y pc T mo As with
    | some l, some m => some (l ++ m)
    | _, _ => none
