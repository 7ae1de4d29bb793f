/-! ===== a machine of bounds: ints between bounds, longs exact or any, references by the places of their cells ===== -/
abbrev XV : Type := (Int × Int) ⊕ (Option Int) ⊕ (Nat × Nat)
abbrev XL : Type := List (Nat × XV)
abbrev XC : Type := (Nat × List XV) ⊕ (Nat × List XV)
abbrev XW : Type := List XC
abbrev XE : Type := Instr × Nat × Nat × Int
abbrev XS : Type := Nat × XL × List XV × XW × Nat × Nat
abbrev XR : Type := XS ⊕ (Option XV × XW × Nat × Nat)
/-- a method: its name, code, locals, answer, room (frames, locals), cells and slots that it may make, its class's number, its instructions -/
abbrev XM : Type := MethodName × ByteArray × Nat × Option FieldType × Nat × Nat × Nat × Nat × Nat × List (List (Option XE))
abbrev xm_y (M : XM) : MethodName := M.1
abbrev xm_c (M : XM) : ByteArray := M.2.1
abbrev xm_l (M : XM) : Nat := M.2.2.1
abbrev xm_r (M : XM) : Option FieldType := M.2.2.2.1
abbrev xm_f (M : XM) : Nat := M.2.2.2.2.1
abbrev xm_o (M : XM) : Nat := M.2.2.2.2.2.1
abbrev xm_k (M : XM) : Nat := M.2.2.2.2.2.2.1
abbrev xm_n (M : XM) : Nat := M.2.2.2.2.2.2.2.1
abbrev xm_i (M : XM) : Nat := M.2.2.2.2.2.2.2.2.1
abbrev xm_t (M : XM) : List (List (Option XE)) := M.2.2.2.2.2.2.2.2.2
abbrev XF : Type := Nat → List XV → XW → Option (Option XV × XW)
def xi (z : Int) : XV := .inl (z, z)
def xtop : Int × Int := (-2147483648, 2147483647)
def xcat : XV → Nat
  | .inl _ => 1
  | .inr (.inl _) => 2
  | .inr (.inr _) => 1
def xkd : XV → Nat
  | .inl _ => 0
  | .inr (.inl _) => 1
  | .inr (.inr _) => 2
def xk_get : XL → Nat → Option XV
  | [], _ => none
  | q :: l, i => if q.1 = i then some q.2 else xk_get l i
def xk_set1 (l : XL) (i : Nat) (v : XV) : XL := (i, v) :: l.filter (fun q => !(q.1 == i) && !(q.1 + 1 == i && xcat q.2 == 2))
def xk_set2 (l : XL) (i : Nat) (v : XV) : XL := (i, v) :: l.filter (fun q => !(q.1 == i) && (!(q.1 == i + 1) && !(q.1 + 1 == i && xcat q.2 == 2)))
def xk_args : Nat → List XV → XL
  | _, [] => []
  | i, v :: vs => (i, v) :: xk_args (if xcat v = 2 then i + 2 else i + 1) vs
-- numbers
def xe2 (f : Int32 → Int32 → Int32) (p q : Int × Int) : Int × Int := if p.1 = p.2 ∧ q.1 = q.2 then ((f (Int32.ofInt p.1) (Int32.ofInt q.1)).toInt, (f (Int32.ofInt p.1) (Int32.ofInt q.1)).toInt) else xtop
def xe1 (f : Int32 → Int32) (p : Int × Int) : Int × Int := if p.1 = p.2 then ((f (Int32.ofInt p.1)).toInt, (f (Int32.ofInt p.1)).toInt) else xtop
def xadd (p q : Int × Int) : Int × Int := if -2147483648 ≤ p.1 + q.1 ∧ p.2 + q.2 ≤ 2147483647 then (p.1 + q.1, p.2 + q.2) else xe2 (fun x y => x + y) p q
def xsub (p q : Int × Int) : Int × Int := if -2147483648 ≤ p.1 - q.2 ∧ p.2 - q.1 ≤ 2147483647 then (p.1 - q.2, p.2 - q.1) else xe2 (fun x y => x - y) p q
def xl2 (f : Int64 → Int64 → Int64) : Option Int → Option Int → Option Int
  | some a, some b => some (f (Int64.ofInt a) (Int64.ofInt b)).toInt
  | _, _ => none
def xls (f : Int64 → Int32 → Int64) : Option Int → Int × Int → Option Int
  | some a, q => if q.1 = q.2 then some (f (Int64.ofInt a) (Int32.ofInt q.1)).toInt else if a = 0 then some 0 else none
  | none, _ => none
def xlt (p q : Int × Int) : Option Bool := if p.2 < q.1 then some true else if q.2 ≤ p.1 then some false else none
def xeq (p q : Int × Int) : Option Bool := if p.1 = p.2 ∧ q.1 = q.2 ∧ p.1 = q.1 then some true else if p.2 < q.1 ∨ q.2 < p.1 then some false else none
def xno : Option Bool → Option Bool
  | some true => some false
  | some false => some true
  | none => none
def xcmp : ClassFile.Cond → Int × Int → Int × Int → Option Bool
  | .eq, p, q => xeq p q
  | .ne, p, q => xno (xeq p q)
  | .lt, p, q => xlt p q
  | .ge, p, q => xno (xlt p q)
  | .gt, p, q => xlt q p
  | .le, p, q => xno (xlt q p)
-- arrays
def xh2 : XV → XV → Option XV
  | .inl p, .inl q => some (.inl (if p.1 ≤ q.1 then p.1 else q.1, if p.2 ≤ q.2 then q.2 else p.2))
  | .inr (.inl a), .inr (.inl b) => some (.inr (.inl (if a = b then a else none)))
  | .inr (.inr a), .inr (.inr b) => if a = b then some (.inr (.inr a)) else none
  | _, _ => none
def xhull : List XV → Option XV
  | [] => none
  | x :: l => match l with
    | [] => some x
    | _ :: _ => match xhull l with
      | some y => xh2 x y
      | none => none
def xread (es : List XV) (q : Int × Int) : Option XV := if 0 ≤ q.1 ∧ q.2 < es.length then (if q.1 = q.2 then es[q.1.toNat]? else xhull ((es.drop q.1.toNat).take (q.2.toNat + 1 - q.1.toNat))) else none
def xwr (v : XV) : List XV → Nat → Nat → Option (List XV)
  | [], _, _ => some []
  | y :: l, i + 1, k => match xwr v l i k with
    | some l' => some (y :: l')
    | none => none
  | y :: l, 0, k + 1 => match xh2 y v, xwr v l 0 k with
    | some z, some l' => some (z :: l')
    | _, _ => none
  | l, 0, 0 => some l
def xwrite (es : List XV) (q : Int × Int) (v : XV) : Option (List XV) := if 0 ≤ q.1 ∧ q.2 < es.length then (if q.1 = q.2 then some (es.set q.1.toNat v) else xwr v es q.1.toNat (q.2.toNat + 1 - q.1.toNat)) else none
def xdef : FieldType → Option XV
  | .int => some (xi 0)
  | .boolean => some (xi 0)
  | .long => some (.inr (.inl (some 0)))
  | .object _ => some (.inr (.inr (0, 0)))
  | .array _ => some (.inr (.inr (0, 0)))
  | _ => none
def xfit : FieldType → XV → Bool
  | .int, .inl _ => true
  | .long, .inr (.inl _) => true
  | .object _, .inr (.inr _) => true
  | .array _, .inr (.inr _) => true
  | _, _ => false
def xfetch (t : List (List (Option XE))) (pc : Nat) : Option XE := match t[pc / 16]? with
  | some r => (match r[pc % 16]? with
    | some o => o
    | none => none)
  | none => none
-- the instructions' families
def xh_push (d : Nat) (v : XV) (pc : Nat) (lv : XL) (st : List XV) (w : XW) (k n : Nat) : Option XR := some (.inl (pc + d, lv, v :: st, w, k, n))
def xh_load (kd d j : Nat) (pc : Nat) (lv : XL) (st : List XV) (w : XW) (k n : Nat) : Option XR := match xk_get lv j with
  | some x => if xkd x = kd then some (.inl (pc + d, lv, x :: st, w, k, n)) else none
  | none => none
def xh_store (kd d j nL : Nat) (pc : Nat) (lv : XL) (st : List XV) (w : XW) (k n : Nat) : Option XR := match st with
  | x :: r => if xkd x = kd ∧ j < nL then some (.inl (pc + d, xk_set1 lv j x, r, w, k, n)) else none
  | [] => none
def xh_store2 (d j nL : Nat) (pc : Nat) (lv : XL) (st : List XV) (w : XW) (k n : Nat) : Option XR := match st with
  | x :: r => if xkd x = 1 ∧ j + 1 < nL then some (.inl (pc + d, xk_set2 lv j x, r, w, k, n)) else none
  | [] => none
def xh_iinc (j nL : Nat) (z : Int) (pc : Nat) (lv : XL) (st : List XV) (w : XW) (k n : Nat) : Option XR := match xk_get lv j with
  | some (.inl q) => if j < nL then some (.inl (pc + 3, xk_set1 lv j (.inl (xadd q (z, z))), st, w, k, n)) else none
  | _ => none
def xh_bin (f : Int × Int → Int × Int → Int × Int) (pc : Nat) (lv : XL) (st : List XV) (w : XW) (k n : Nat) : Option XR := match st with
  | .inl q :: .inl p :: r => some (.inl (pc + 1, lv, .inl (f p q) :: r, w, k, n))
  | _ => none
def xh_div (f : Int × Int → Int × Int → Int × Int) (pc : Nat) (lv : XL) (st : List XV) (w : XW) (k n : Nat) : Option XR := match st with
  | .inl q :: .inl p :: r => if 0 < q.1 ∨ q.2 < 0 then some (.inl (pc + 1, lv, .inl (f p q) :: r, w, k, n)) else none
  | _ => none
def xh_un (f : Int × Int → Int × Int) (pc : Nat) (lv : XL) (st : List XV) (w : XW) (k n : Nat) : Option XR := match st with
  | .inl p :: r => some (.inl (pc + 1, lv, .inl (f p) :: r, w, k, n))
  | _ => none
def xh_lneg (pc : Nat) (lv : XL) (st : List XV) (w : XW) (k n : Nat) : Option XR := match st with
  | .inr (.inl (some a)) :: r => some (.inl (pc + 1, lv, .inr (.inl (some (-(Int64.ofInt a)).toInt)) :: r, w, k, n))
  | .inr (.inl none) :: r => some (.inl (pc + 1, lv, .inr (.inl none) :: r, w, k, n))
  | _ => none
def xh_lbin (f : Option Int → Option Int → Option Int) (pc : Nat) (lv : XL) (st : List XV) (w : XW) (k n : Nat) : Option XR := match st with
  | .inr (.inl q) :: .inr (.inl p) :: r => some (.inl (pc + 1, lv, .inr (.inl (f p q)) :: r, w, k, n))
  | _ => none
def xh_ldiv (g : Option Int → Option Int → Option Int) (pc : Nat) (lv : XL) (st : List XV) (w : XW) (k n : Nat) : Option XR := match st with
  | .inr (.inl (some b)) :: .inr (.inl p) :: r => if b ≠ 0 then some (.inl (pc + 1, lv, .inr (.inl (g p (some b))) :: r, w, k, n)) else none
  | _ => none
/-- c places of one row, laid into another -/
def xcpy (es ed : List XV) (i j c : Nat) : List XV := ed.take j ++ ((es.drop i).take c ++ ed.drop (j + c))
def xh_cpy (M : XM) (pc : Nat) (lv : XL) (st : List XV) (w : XW) (k n : Nat) : Option XR := match st with
  | .inl c :: .inl j :: .inr (.inr d) :: .inl i :: .inr (.inr s) :: r => if s.1 = 1 ∧ d.1 = 1 ∧ c.1 = c.2 ∧ j.1 = j.2 ∧ i.1 = i.2 ∧ 0 ≤ c.1 ∧ 0 ≤ j.1 ∧ 0 ≤ i.1 ∧ 1 ≤ xm_f M ∧ (r.map xcat).sum + 18 ≤ xm_o M then (match w[s.2]?, w[d.2]? with
    | some (.inr (0, es)), some (.inr (0, ed)) => if i.1.toNat + c.1.toNat ≤ es.length ∧ j.1.toNat + c.1.toNat ≤ ed.length then some (.inl (pc + 3, lv, r, w.set d.2 (.inr (0, xcpy es ed i.1.toNat j.1.toNat c.1.toNat)), k, n)) else none
    | _, _ => none) else none
  | _ => none
def xh_lsh (f : Option Int → Int × Int → Option Int) (pc : Nat) (lv : XL) (st : List XV) (w : XW) (k n : Nat) : Option XR := match st with
  | .inl q :: .inr (.inl p) :: r => some (.inl (pc + 1, lv, .inr (.inl (f p q)) :: r, w, k, n))
  | _ => none
def xh_i2l (pc : Nat) (lv : XL) (st : List XV) (w : XW) (k n : Nat) : Option XR := match st with
  | .inl q :: r => some (.inl (pc + 1, lv, .inr (.inl (if q.1 = q.2 then some q.1 else none)) :: r, w, k, n))
  | _ => none
def xh_l2i (pc : Nat) (lv : XL) (st : List XV) (w : XW) (k n : Nat) : Option XR := match st with
  | .inr (.inl (some a)) :: r => some (.inl (pc + 1, lv, xi (Int64.ofInt a).toInt32.toInt :: r, w, k, n))
  | .inr (.inl none) :: r => some (.inl (pc + 1, lv, .inl xtop :: r, w, k, n))
  | _ => none
def xh_lcmp (pc : Nat) (lv : XL) (st : List XV) (w : XW) (k n : Nat) : Option XR := match st with
  | .inr (.inl (some b)) :: .inr (.inl (some a)) :: r => some (.inl (pc + 1, lv, xi (if a < b then -1 else if a = b then 0 else 1) :: r, w, k, n))
  | .inr (.inl _) :: .inr (.inl _) :: r => some (.inl (pc + 1, lv, .inl (-1, 1) :: r, w, k, n))
  | _ => none
def xh_pop (cat pc : Nat) (lv : XL) (st : List XV) (w : XW) (k n : Nat) : Option XR := match st with
  | x :: r => if xcat x = cat then some (.inl (pc + 1, lv, r, w, k, n)) else none
  | [] => none
def xh_dup (pc : Nat) (lv : XL) (st : List XV) (w : XW) (k n : Nat) : Option XR := match st with
  | x :: r => if xcat x = 1 then some (.inl (pc + 1, lv, x :: x :: r, w, k, n)) else none
  | _ => none
def xh_dup2 (pc : Nat) (lv : XL) (st : List XV) (w : XW) (k n : Nat) : Option XR := match st with
  | x :: r => if xcat x = 2 then some (.inl (pc + 1, lv, x :: x :: r, w, k, n)) else (match r with
    | y :: r2 => if xcat y = 1 then some (.inl (pc + 1, lv, x :: y :: x :: y :: r2, w, k, n)) else none
    | [] => none)
  | [] => none
def xh_br (o : Option Bool) (tgt : Nat) (pc : Nat) (lv : XL) (st : List XV) (w : XW) (k n : Nat) : Option XR := match o with
  | some true => some (.inl (tgt, lv, st, w, k, n))
  | some false => some (.inl (pc + 3, lv, st, w, k, n))
  | none => none
def xh_if (c : ClassFile.Cond) (tgt : Nat) (pc : Nat) (lv : XL) (st : List XV) (w : XW) (k n : Nat) : Option XR := match st with
  | .inl p :: r => xh_br (xcmp c p (0, 0)) tgt pc lv r w k n
  | _ => none
def xh_icmp (c : ClassFile.Cond) (tgt : Nat) (pc : Nat) (lv : XL) (st : List XV) (w : XW) (k n : Nat) : Option XR := match st with
  | .inl q :: .inl p :: r => xh_br (xcmp c p q) tgt pc lv r w k n
  | _ => none
def xh_null (neg : Bool) (tgt : Nat) (pc : Nat) (lv : XL) (st : List XV) (w : XW) (k n : Nat) : Option XR := match st with
  | .inr (.inr q) :: r => if (q.1 == 0) == neg then some (.inl (pc + 3, lv, r, w, k, n)) else some (.inl (tgt, lv, r, w, k, n))
  | _ => none
def xh_goto (tgt : Nat) (lv : XL) (st : List XV) (w : XW) (k n : Nat) : Option XR := some (.inl (tgt, lv, st, w, k, n))
def xh_table (dflt lo hi : Int) (offs : Array Int) (pc : Nat) (lv : XL) (st : List XV) (w : XW) (k n : Nat) : Option XR := match st with
  | .inl q :: r => if q.2 < lo ∨ hi < q.1 then (if 0 ≤ (pc : Int) + dflt then some (.inl (((pc : Int) + dflt).toNat, lv, r, w, k, n)) else none) else if q.1 = q.2 then (match offs[(q.1 - lo).toNat]? with
    | some off => if 0 ≤ (pc : Int) + off then some (.inl (((pc : Int) + off).toNat, lv, r, w, k, n)) else none
    | none => none) else none
  | _ => none
/-- an array's type, its places -/
def xarr (w : XW) (exc : List (List XV)) (q : Nat × Nat) : Option (Nat × List XV) := if q.1 = 1 then (match w[q.2]? with
  | some (.inr x) => some x
  | _ => none) else if q.1 = 2 then (match exc[q.2]? with
  | some es => some (0, es)
  | none => none) else none
def xh_ald (ty kd : Nat) (exc : List (List XV)) (pc : Nat) (lv : XL) (st : List XV) (w : XW) (k n : Nat) : Option XR := match st with
  | .inl i :: .inr (.inr q) :: r => (match xarr w exc q with
    | some (t, es) => if (ty = t ∨ (ty = 3 ∧ 3 ≤ t)) then (match xread es i with
      | some x => if xkd x = kd then some (.inl (pc + 1, lv, x :: r, w, k, n)) else none
      | none => none) else none
    | none => none)
  | _ => none
def xh_ast (ty kd : Nat) (pc : Nat) (lv : XL) (st : List XV) (w : XW) (k n : Nat) : Option XR := match st with
  | x :: .inl i :: .inr (.inr q) :: r => if q.1 = 1 ∧ xkd x = kd then (match w[q.2]? with
    | some (.inr (t, es)) => if ty = t then (match xwrite es i x with
      | some es' => some (.inl (pc + 1, lv, r, w.set q.2 (.inr (t, es')), k, n))
      | none => none) else none
    | _ => none) else none
  | _ => none
def xbool : XV → Bool
  | .inl q => decide (0 ≤ q.1 ∧ q.2 ≤ 1)
  | _ => false
def xh_zst (pc : Nat) (lv : XL) (st : List XV) (w : XW) (k n : Nat) : Option XR := match st with
  | x :: _ => if xbool x then xh_ast 2 0 pc lv st w k n else none
  | _ => none
/-- a cell into an array of references: the class that the array's type names -/
def xh_aast (tc : Nat → Option Nat) (pc : Nat) (lv : XL) (st : List XV) (w : XW) (k n : Nat) : Option XR := match st with
  | .inr (.inr v) :: .inl i :: .inr (.inr q) :: r => if q.1 = 1 ∧ v.1 = 1 ∧ i.1 = i.2 then (match w[q.2]?, w[v.2]? with
    | some (.inr (t, es)), some (.inl (c, _)) => if tc t = some c then (match xwrite es i (.inr (.inr v)) with
      | some es' => some (.inl (pc + 1, lv, r, w.set q.2 (.inr (t, es')), k, n))
      | none => none) else none
    | _, _ => none) else none
  | _ => none
def xh_alen (exc : List (List XV)) (pc : Nat) (lv : XL) (st : List XV) (w : XW) (k n : Nat) : Option XR := match st with
  | .inr (.inr q) :: r => (match xarr w exc q with
    | some (_, es) => if es.length < 2147483648 then some (.inl (pc + 1, lv, xi es.length :: r, w, k, n)) else none
    | none => none)
  | _ => none
def xh_newa (d t : Nat) (ty : Option FieldType) (mk mn : Nat) (pc : Nat) (lv : XL) (st : List XV) (w : XW) (k n : Nat) : Option XR := match st with
  | .inl q :: r => if q.1 = q.2 ∧ 0 ≤ q.1 ∧ q.1 < 1000 ∧ k + 1 ≤ mk ∧ n + q.1.toNat ≤ mn then (match ty with
    | some f => (match xdef f with
      | some v => some (.inl (pc + d, lv, .inr (.inr (1, w.length)) :: r, w ++ [.inr (t, List.replicate q.1.toNat v)], k + 1, n + q.1.toNat))
      | none => none)
    | none => none) else none
  | _ => none
def xh_new (c : Nat) (fs : Option (List XV)) (mk mn : Nat) (pc : Nat) (lv : XL) (st : List XV) (w : XW) (k n : Nat) : Option XR := match fs with
  | some fs => if k + 1 ≤ mk ∧ n + fs.length ≤ mn then some (.inl (pc + 3, lv, .inr (.inr (1, w.length)) :: st, w ++ [.inl (c, fs)], k + 1, n + fs.length)) else none
  | none => none
def xh_get (c f : Nat) (pc : Nat) (lv : XL) (st : List XV) (w : XW) (k n : Nat) : Option XR := match st with
  | .inr (.inr q) :: r => if q.1 = 1 then (match w[q.2]? with
    | some (.inl (c', fs)) => if c' = c then (match fs[f]? with
      | some v => some (.inl (pc + 3, lv, v :: r, w, k, n))
      | none => none) else none
    | _ => none) else none
  | _ => none
def xh_put (c f : Nat) (ty : Option FieldType) (pc : Nat) (lv : XL) (st : List XV) (w : XW) (k n : Nat) : Option XR := match st with
  | x :: .inr (.inr q) :: r => if q.1 = 1 then (match w[q.2]?, ty with
    | some (.inl (c', fs)), some t => if c' = c ∧ f < fs.length ∧ xfit t x = true then some (.inl (pc + 3, lv, r, w.set q.2 (.inl (c, fs.set f x)), k, n)) else none
    | _, _ => none) else none
  | _ => none
def xh_oinit (M : XM) (pc : Nat) (lv : XL) (st : List XV) (w : XW) (k n : Nat) : Option XR := match st with
  | .inr (.inr q) :: r => if q.1 = 1 ∧ 1 ≤ xm_f M ∧ (r.map xcat).sum + 12 ≤ xm_o M then some (.inl (pc + 3, lv, r, w, k, n)) else none
  | _ => none
/-- the receiver: a cell of that class -/
def xrecv (w : XW) (c : Nat) : List XV → Bool
  | .inr (.inr q) :: _ => q.1 == 1 && (match w[q.2]? with
    | some (.inl x) => x.1 == c
    | _ => false)
  | _ => false
def xh_call (cf : XF) (M : XM) (N : Option XM) (j na : Nat) (recv : Bool) (pc : Nat) (lv : XL) (st : List XV) (w : XW) (k n : Nat) : Option XR := match N with
  | some N => if na ≤ st.length ∧ ((st.drop na).map xcat).sum ≤ 8 ∧ xm_f N + 1 ≤ xm_f M ∧ 8 + (xm_l N + 11) + xm_o N ≤ xm_o M ∧ k + xm_k N ≤ xm_k M ∧ n + xm_n N ≤ xm_n M ∧ (!recv || xrecv w (xm_i N) (st.take na).reverse) = true then (match cf j (st.take na).reverse w with
    | some q => some (.inl (pc + 3, lv, q.1.toList ++ st.drop na, q.2, k + xm_k N, n + xm_n N))
    | none => none) else none
  | none => none
def xh_m2 (f : Int32 → Int32 → Int32) (M : XM) (pc : Nat) (lv : XL) (st : List XV) (w : XW) (k n : Nat) : Option XR := match st with
  | .inl q :: .inl p :: r => if 1 ≤ xm_f M ∧ (r.map xcat).sum + 13 ≤ xm_o M ∧ k ≤ xm_k M ∧ n ≤ xm_n M then some (.inl (pc + 3, lv, .inl (xe2 f p q) :: r, w, k, n)) else none
  | _ => none
def xh_m1 (f : Int32 → Int32) (M : XM) (pc : Nat) (lv : XL) (st : List XV) (w : XW) (k n : Nat) : Option XR := match st with
  | .inl p :: r => if 1 ≤ xm_f M ∧ (r.map xcat).sum + 13 ≤ xm_o M ∧ k ≤ xm_k M ∧ n ≤ xm_n M then some (.inl (pc + 3, lv, .inl (xe1 f p) :: r, w, k, n)) else none
  | _ => none
def xz : Option FieldType → Bool
  | some .boolean => true
  | _ => false
def xh_ret (kd : Nat) (ty : Option FieldType) (st : List XV) (w : XW) (k n : Nat) : Option XR := match st with
  | [x] => if xkd x = kd ∧ (!xz ty || xbool x) = true then some (.inr (some x, w, k, n)) else none
  | _ => none
def xh_retv (st : List XV) (w : XW) (k n : Nat) : Option XR := match st with
  | [] => some (.inr (none, w, k, n))
  | _ => none
def xins (cf : XF) (MT : Nat → Option XM) (FT : Nat → Nat → Option FieldType) (FD : Nat → Option (List XV)) (TY : Nat → Option FieldType) (TC : Nat → Option Nat) (exc : List (List XV)) (M : XM) (i : Instr) (a b : Nat) (z : Int) (pc : Nat) (lv : XL) (st : List XV) (w : XW) (k n : Nat) : Option XR := match i with
  | .iconst _ => xh_push 1 (xi z) pc lv st w k n
  | .bipush _ => xh_push 2 (xi z) pc lv st w k n
  | .sipush _ => xh_push 3 (xi z) pc lv st w k n
  | .ldc _ => xh_push 2 (xi z) pc lv st w k n
  | .ldc_w _ => xh_push 3 (xi z) pc lv st w k n
  | .lconst _ => xh_push 1 (.inr (.inl (some z))) pc lv st w k n
  | .ldc2_w _ => xh_push 3 (.inr (.inl (some z))) pc lv st w k n
  | .aconst_null => xh_push 1 (.inr (.inr (0, 0))) pc lv st w k n
  | .iload_n j => xh_load 0 1 j.val pc lv st w k n
  | .iload j => xh_load 0 2 j pc lv st w k n
  | .lload_n j => xh_load 1 1 j.val pc lv st w k n
  | .lload j => xh_load 1 2 j pc lv st w k n
  | .aload_n j => xh_load 2 1 j.val pc lv st w k n
  | .aload j => xh_load 2 2 j pc lv st w k n
  | .istore_n j => xh_store 0 1 j.val (xm_l M) pc lv st w k n
  | .istore j => xh_store 0 2 j (xm_l M) pc lv st w k n
  | .lstore_n j => xh_store2 1 j.val (xm_l M) pc lv st w k n
  | .lstore j => xh_store2 2 j (xm_l M) pc lv st w k n
  | .astore_n j => xh_store 2 1 j.val (xm_l M) pc lv st w k n
  | .astore j => xh_store 2 2 j (xm_l M) pc lv st w k n
  | .iinc j _ => xh_iinc j (xm_l M) z pc lv st w k n
  | .iadd => xh_bin xadd pc lv st w k n
  | .isub => xh_bin xsub pc lv st w k n
  | .imul => xh_bin (xe2 (fun x y => x * y)) pc lv st w k n
  | .iand => xh_bin (xe2 (fun x y => x &&& y)) pc lv st w k n
  | .ior => xh_bin (xe2 (fun x y => x ||| y)) pc lv st w k n
  | .ixor => xh_bin (xe2 (fun x y => x ^^^ y)) pc lv st w k n
  | .ishl => xh_bin (xe2 (fun x y => x <<< (y &&& 31))) pc lv st w k n
  | .ishr => xh_bin (xe2 (fun x y => x >>> (y &&& 31))) pc lv st w k n
  | .iushr => xh_bin (xe2 (fun x y => (x.toUInt32 >>> (y.toUInt32 &&& Int32.toUInt32 31)).toInt32)) pc lv st w k n
  | .idiv => xh_div (xe2 (fun x y => x / y)) pc lv st w k n
  | .irem => xh_div (xe2 (fun x y => x - x / y * y)) pc lv st w k n
  | .ineg => xh_un (xe1 (fun x => -x)) pc lv st w k n
  | .i2b => xh_un (xe1 (fun x => x.toInt8.toInt32)) pc lv st w k n
  | .lneg => xh_lneg pc lv st w k n
  | .ladd => xh_lbin (xl2 (fun x y => x + y)) pc lv st w k n
  | .lsub => xh_lbin (xl2 (fun x y => x - y)) pc lv st w k n
  | .lmul => xh_lbin (xl2 (fun x y => x * y)) pc lv st w k n
  | .ldiv => xh_ldiv (xl2 (fun x y => x / y)) pc lv st w k n
  | .lrem => xh_ldiv (xl2 (fun x y => x - x / y * y)) pc lv st w k n
  | .land => xh_lbin (xl2 (fun x y => x &&& y)) pc lv st w k n
  | .lor => xh_lbin (xl2 (fun x y => x ||| y)) pc lv st w k n
  | .lxor => xh_lbin (xl2 (fun x y => x ^^^ y)) pc lv st w k n
  | .lshl => xh_lsh (xls (fun x y => x <<< (y.toInt64 &&& 63))) pc lv st w k n
  | .lshr => xh_lsh (xls (fun x y => x >>> (y.toInt64 &&& 63))) pc lv st w k n
  | .lushr => xh_lsh (xls (fun x y => (x.toUInt64 >>> (y.toInt64.toUInt64 &&& Int64.toUInt64 63)).toInt64)) pc lv st w k n
  | .i2l => xh_i2l pc lv st w k n
  | .l2i => xh_l2i pc lv st w k n
  | .lcmp => xh_lcmp pc lv st w k n
  | .dup => xh_dup pc lv st w k n
  | .pop => xh_pop 1 pc lv st w k n
  | .pop2 => xh_pop 2 pc lv st w k n
  | .dup2 => xh_dup2 pc lv st w k n
  | .ifCond c _ => xh_if c a pc lv st w k n
  | .if_icmp c _ => xh_icmp c a pc lv st w k n
  | .ifnull _ => xh_null false a pc lv st w k n
  | .ifnonnull _ => xh_null true a pc lv st w k n
  | .goto _ => xh_goto a lv st w k n
  | .tableswitch d lo hi offs => xh_table d lo hi offs pc lv st w k n
  | .iaload => xh_ald 0 0 exc pc lv st w k n
  | .laload => xh_ald 1 1 exc pc lv st w k n
  | .baload => xh_ald 2 0 exc pc lv st w k n
  | .aaload => xh_ald 3 2 exc pc lv st w k n
  | .iastore => xh_ast 0 0 pc lv st w k n
  | .lastore => xh_ast 1 1 pc lv st w k n
  | .bastore => xh_zst pc lv st w k n
  | .aastore => xh_aast TC pc lv st w k n
  | .arraylength => xh_alen exc pc lv st w k n
  | .newarray _ => xh_newa 2 a (TY a) (xm_k M) (xm_n M) pc lv st w k n
  | .anewarray _ => xh_newa 3 a (TY a) (xm_k M) (xm_n M) pc lv st w k n
  | .new _ => xh_new a (FD a) (xm_k M) (xm_n M) pc lv st w k n
  | .getfield _ => xh_get a b pc lv st w k n
  | .putfield _ => xh_put a b (FT a b) pc lv st w k n
  | .getstatic _ => xh_push 3 (.inr (.inr (2, a))) pc lv st w k n
  | .invokevirtual _ => xh_call cf M (MT a) a b true pc lv st w k n
  | .invokestatic _ => if a < 7000 then xh_call cf M (MT a) a b false pc lv st w k n else if a = 7000 then xh_m2 (fun x y => if x < y then y else x) M pc lv st w k n else if a = 7001 then xh_m2 (fun x y => if y < x then y else x) M pc lv st w k n else if a = 7002 then xh_m1 (fun x => if 0 ≤ x then x else 0 - x) M pc lv st w k n else if a = 8888 then xh_cpy M pc lv st w k n else none
  | .invokespecial _ => if a = 9999 then xh_oinit M pc lv st w k n else xh_call cf M (MT a) a b true pc lv st w k n
  | .ireturn => xh_ret 0 (xm_r M) st w k n
  | .lreturn => xh_ret 1 none st w k n
  | .areturn => xh_ret 2 none st w k n
  | .return_ => xh_retv st w k n
  | _ => none
