section
/-! ===== a machine of bounds: ints between bounds, longs exact or any, references by the places of their cells ===== -/
abbrev XV : Type := (Int × Int) ⊕ (Option Int) ⊕ (Nat × Nat)
abbrev XL : Type := List (Nat × XV)
abbrev XC : Type := (Nat × List XV) ⊕ (Nat × List XV)
abbrev XW : Type := List XC
abbrev XE : Type := Instr × Nat × Nat × Int
abbrev XS : Type := Nat × XL × List XV × XW × Nat × Nat
abbrev XR : Type := XS ⊕ (Option XV × XW × Nat × Nat)
/-- a method: its name, code, locals, answer, room (frames, locals), cells and slots that it may make, its class's number, its instructions -/
abbrev XM : Type := MethodName × ByteArray × Nat × Option FieldType × Nat × Nat × Nat × Nat × Nat × List (List (Option XE))
abbrev xm_y (M : XM) : MethodName := M.1
abbrev xm_c (M : XM) : ByteArray := M.2.1
abbrev xm_l (M : XM) : Nat := M.2.2.1
abbrev xm_r (M : XM) : Option FieldType := M.2.2.2.1
abbrev xm_f (M : XM) : Nat := M.2.2.2.2.1
abbrev xm_o (M : XM) : Nat := M.2.2.2.2.2.1
abbrev xm_k (M : XM) : Nat := M.2.2.2.2.2.2.1
abbrev xm_n (M : XM) : Nat := M.2.2.2.2.2.2.2.1
abbrev xm_i (M : XM) : Nat := M.2.2.2.2.2.2.2.2.1
abbrev xm_t (M : XM) : List (List (Option XE)) := M.2.2.2.2.2.2.2.2.2
abbrev XF : Type := Nat → List XV → XW → Option (Option XV × XW)
def xi (z : Int) : XV := .inl (z, z)
def xtop : Int × Int := (-2147483648, 2147483647)
def xcat : XV → Nat
  | .inl _ => 1
  | .inr (.inl _) => 2
  | .inr (.inr _) => 1
def xkd : XV → Nat
  | .inl _ => 0
  | .inr (.inl _) => 1
  | .inr (.inr _) => 2
def xk_get : XL → Nat → Option XV
  | [], _ => none
  | q :: l, i => if q.1 = i then some q.2 else xk_get l i
def xk_set1 (l : XL) (i : Nat) (v : XV) : XL := (i, v) :: l.filter (fun q => !(q.1 == i) && !(q.1 + 1 == i && xcat q.2 == 2))
def xk_set2 (l : XL) (i : Nat) (v : XV) : XL := (i, v) :: l.filter (fun q => !(q.1 == i) && (!(q.1 == i + 1) && !(q.1 + 1 == i && xcat q.2 == 2)))
def xk_args : Nat → List XV → XL
  | _, [] => []
  | i, v :: vs => (i, v) :: xk_args (if xcat v = 2 then i + 2 else i + 1) vs
-- numbers
def xe2 (f : Int32 → Int32 → Int32) (p q : Int × Int) : Int × Int := if p.1 = p.2 ∧ q.1 = q.2 then ((f (Int32.ofInt p.1) (Int32.ofInt q.1)).toInt, (f (Int32.ofInt p.1) (Int32.ofInt q.1)).toInt) else xtop
def xe1 (f : Int32 → Int32) (p : Int × Int) : Int × Int := if p.1 = p.2 then ((f (Int32.ofInt p.1)).toInt, (f (Int32.ofInt p.1)).toInt) else xtop
def xadd (p q : Int × Int) : Int × Int := if -2147483648 ≤ p.1 + q.1 ∧ p.2 + q.2 ≤ 2147483647 then (p.1 + q.1, p.2 + q.2) else xe2 (fun x y => x + y) p q
def xsub (p q : Int × Int) : Int × Int := if -2147483648 ≤ p.1 - q.2 ∧ p.2 - q.1 ≤ 2147483647 then (p.1 - q.2, p.2 - q.1) else xe2 (fun x y => x - y) p q
def xl2 (f : Int64 → Int64 → Int64) : Option Int → Option Int → Option Int
  | some a, some b => some (f (Int64.ofInt a) (Int64.ofInt b)).toInt
  | _, _ => none
def xls (f : Int64 → Int32 → Int64) : Option Int → Int × Int → Option Int
  | some a, q => if q.1 = q.2 then some (f (Int64.ofInt a) (Int32.ofInt q.1)).toInt else if a = 0 then some 0 else none
  | none, _ => none
def xlt (p q : Int × Int) : Option Bool := if p.2 < q.1 then some true else if q.2 ≤ p.1 then some false else none
def xeq (p q : Int × Int) : Option Bool := if p.1 = p.2 ∧ q.1 = q.2 ∧ p.1 = q.1 then some true else if p.2 < q.1 ∨ q.2 < p.1 then some false else none
def xno : Option Bool → Option Bool
  | some true => some false
  | some false => some true
  | none => none
def xcmp : ClassFile.Cond → Int × Int → Int × Int → Option Bool
  | .eq, p, q => xeq p q
  | .ne, p, q => xno (xeq p q)
  | .lt, p, q => xlt p q
  | .ge, p, q => xno (xlt p q)
  | .gt, p, q => xlt q p
  | .le, p, q => xno (xlt q p)
-- arrays
def xh2 : XV → XV → Option XV
  | .inl p, .inl q => some (.inl (if p.1 ≤ q.1 then p.1 else q.1, if p.2 ≤ q.2 then q.2 else p.2))
  | .inr (.inl a), .inr (.inl b) => some (.inr (.inl (if a = b then a else none)))
  | .inr (.inr a), .inr (.inr b) => if a = b then some (.inr (.inr a)) else none
  | _, _ => none
def xhull : List XV → Option XV
  | [] => none
  | x :: l => match l with
    | [] => some x
    | _ :: _ => match xhull l with
      | some y => xh2 x y
      | none => none
def xread (es : List XV) (q : Int × Int) : Option XV := if 0 ≤ q.1 ∧ q.2 < es.length then (if q.1 = q.2 then es[q.1.toNat]? else xhull ((es.drop q.1.toNat).take (q.2.toNat + 1 - q.1.toNat))) else none
def xwr (v : XV) : List XV → Nat → Nat → Option (List XV)
  | [], _, _ => some []
  | y :: l, i + 1, k => match xwr v l i k with
    | some l' => some (y :: l')
    | none => none
  | y :: l, 0, k + 1 => match xh2 y v, xwr v l 0 k with
    | some z, some l' => some (z :: l')
    | _, _ => none
  | l, 0, 0 => some l
def xwrite (es : List XV) (q : Int × Int) (v : XV) : Option (List XV) := if 0 ≤ q.1 ∧ q.2 < es.length then (if q.1 = q.2 then some (es.set q.1.toNat v) else xwr v es q.1.toNat (q.2.toNat + 1 - q.1.toNat)) else none
def xdef : FieldType → Option XV
  | .int => some (xi 0)
  | .boolean => some (xi 0)
  | .long => some (.inr (.inl (some 0)))
  | .object _ => some (.inr (.inr (0, 0)))
  | .array _ => some (.inr (.inr (0, 0)))
  | _ => none
def xfit : FieldType → XV → Bool
  | .int, .inl _ => true
  | .long, .inr (.inl _) => true
  | .object _, .inr (.inr _) => true
  | .array _, .inr (.inr _) => true
  | _, _ => false
def xfetch (t : List (List (Option XE))) (pc : Nat) : Option XE := match t[pc / 16]? with
  | some r => (match r[pc % 16]? with
    | some o => o
    | none => none)
  | none => none
-- the instructions' families
def xh_push (d : Nat) (v : XV) (pc : Nat) (lv : XL) (st : List XV) (w : XW) (k n : Nat) : Option XR := some (.inl (pc + d, lv, v :: st, w, k, n))
def xh_load (kd d j : Nat) (pc : Nat) (lv : XL) (st : List XV) (w : XW) (k n : Nat) : Option XR := match xk_get lv j with
  | some x => if xkd x = kd then some (.inl (pc + d, lv, x :: st, w, k, n)) else none
  | none => none
def xh_store (kd d j nL : Nat) (pc : Nat) (lv : XL) (st : List XV) (w : XW) (k n : Nat) : Option XR := match st with
  | x :: r => if xkd x = kd ∧ j < nL then some (.inl (pc + d, xk_set1 lv j x, r, w, k, n)) else none
  | [] => none
def xh_store2 (d j nL : Nat) (pc : Nat) (lv : XL) (st : List XV) (w : XW) (k n : Nat) : Option XR := match st with
  | x :: r => if xkd x = 1 ∧ j + 1 < nL then some (.inl (pc + d, xk_set2 lv j x, r, w, k, n)) else none
  | [] => none
def xh_iinc (j nL : Nat) (z : Int) (pc : Nat) (lv : XL) (st : List XV) (w : XW) (k n : Nat) : Option XR := match xk_get lv j with
  | some (.inl q) => if j < nL then some (.inl (pc + 3, xk_set1 lv j (.inl (xadd q (z, z))), st, w, k, n)) else none
  | _ => none
def xh_bin (f : Int × Int → Int × Int → Int × Int) (pc : Nat) (lv : XL) (st : List XV) (w : XW) (k n : Nat) : Option XR := match st with
  | .inl q :: .inl p :: r => some (.inl (pc + 1, lv, .inl (f p q) :: r, w, k, n))
  | _ => none
def xh_div (f : Int × Int → Int × Int → Int × Int) (pc : Nat) (lv : XL) (st : List XV) (w : XW) (k n : Nat) : Option XR := match st with
  | .inl q :: .inl p :: r => if 0 < q.1 ∨ q.2 < 0 then some (.inl (pc + 1, lv, .inl (f p q) :: r, w, k, n)) else none
  | _ => none
def xh_un (f : Int × Int → Int × Int) (pc : Nat) (lv : XL) (st : List XV) (w : XW) (k n : Nat) : Option XR := match st with
  | .inl p :: r => some (.inl (pc + 1, lv, .inl (f p) :: r, w, k, n))
  | _ => none
def xh_lneg (pc : Nat) (lv : XL) (st : List XV) (w : XW) (k n : Nat) : Option XR := match st with
  | .inr (.inl (some a)) :: r => some (.inl (pc + 1, lv, .inr (.inl (some (-(Int64.ofInt a)).toInt)) :: r, w, k, n))
  | .inr (.inl none) :: r => some (.inl (pc + 1, lv, .inr (.inl none) :: r, w, k, n))
  | _ => none
def xh_lbin (f : Option Int → Option Int → Option Int) (pc : Nat) (lv : XL) (st : List XV) (w : XW) (k n : Nat) : Option XR := match st with
  | .inr (.inl q) :: .inr (.inl p) :: r => some (.inl (pc + 1, lv, .inr (.inl (f p q)) :: r, w, k, n))
  | _ => none
def xh_lsh (f : Option Int → Int × Int → Option Int) (pc : Nat) (lv : XL) (st : List XV) (w : XW) (k n : Nat) : Option XR := match st with
  | .inl q :: .inr (.inl p) :: r => some (.inl (pc + 1, lv, .inr (.inl (f p q)) :: r, w, k, n))
  | _ => none
def xh_i2l (pc : Nat) (lv : XL) (st : List XV) (w : XW) (k n : Nat) : Option XR := match st with
  | .inl q :: r => some (.inl (pc + 1, lv, .inr (.inl (if q.1 = q.2 then some q.1 else none)) :: r, w, k, n))
  | _ => none
def xh_l2i (pc : Nat) (lv : XL) (st : List XV) (w : XW) (k n : Nat) : Option XR := match st with
  | .inr (.inl (some a)) :: r => some (.inl (pc + 1, lv, xi (Int64.ofInt a).toInt32.toInt :: r, w, k, n))
  | .inr (.inl none) :: r => some (.inl (pc + 1, lv, .inl xtop :: r, w, k, n))
  | _ => none
def xh_lcmp (pc : Nat) (lv : XL) (st : List XV) (w : XW) (k n : Nat) : Option XR := match st with
  | .inr (.inl (some b)) :: .inr (.inl (some a)) :: r => some (.inl (pc + 1, lv, xi (if a < b then -1 else if a = b then 0 else 1) :: r, w, k, n))
  | .inr (.inl _) :: .inr (.inl _) :: r => some (.inl (pc + 1, lv, .inl (-1, 1) :: r, w, k, n))
  | _ => none
def xh_dup (pc : Nat) (lv : XL) (st : List XV) (w : XW) (k n : Nat) : Option XR := match st with
  | x :: r => if xcat x = 1 then some (.inl (pc + 1, lv, x :: x :: r, w, k, n)) else none
  | _ => none
def xh_dup2 (pc : Nat) (lv : XL) (st : List XV) (w : XW) (k n : Nat) : Option XR := match st with
  | x :: r => if xcat x = 2 then some (.inl (pc + 1, lv, x :: x :: r, w, k, n)) else (match r with
    | y :: r2 => if xcat y = 1 then some (.inl (pc + 1, lv, x :: y :: x :: y :: r2, w, k, n)) else none
    | [] => none)
  | [] => none
def xh_br (o : Option Bool) (tgt : Nat) (pc : Nat) (lv : XL) (st : List XV) (w : XW) (k n : Nat) : Option XR := match o with
  | some true => some (.inl (tgt, lv, st, w, k, n))
  | some false => some (.inl (pc + 3, lv, st, w, k, n))
  | none => none
def xh_if (c : ClassFile.Cond) (tgt : Nat) (pc : Nat) (lv : XL) (st : List XV) (w : XW) (k n : Nat) : Option XR := match st with
  | .inl p :: r => xh_br (xcmp c p (0, 0)) tgt pc lv r w k n
  | _ => none
def xh_icmp (c : ClassFile.Cond) (tgt : Nat) (pc : Nat) (lv : XL) (st : List XV) (w : XW) (k n : Nat) : Option XR := match st with
  | .inl q :: .inl p :: r => xh_br (xcmp c p q) tgt pc lv r w k n
  | _ => none
def xh_null (neg : Bool) (tgt : Nat) (pc : Nat) (lv : XL) (st : List XV) (w : XW) (k n : Nat) : Option XR := match st with
  | .inr (.inr q) :: r => if (q.1 == 0) == neg then some (.inl (pc + 3, lv, r, w, k, n)) else some (.inl (tgt, lv, r, w, k, n))
  | _ => none
def xh_goto (tgt : Nat) (lv : XL) (st : List XV) (w : XW) (k n : Nat) : Option XR := some (.inl (tgt, lv, st, w, k, n))
def xh_table (dflt lo hi : Int) (offs : Array Int) (pc : Nat) (lv : XL) (st : List XV) (w : XW) (k n : Nat) : Option XR := match st with
  | .inl q :: r => if q.2 < lo ∨ hi < q.1 then (if 0 ≤ (pc : Int) + dflt then some (.inl (((pc : Int) + dflt).toNat, lv, r, w, k, n)) else none) else if q.1 = q.2 then (match offs[(q.1 - lo).toNat]? with
    | some off => if 0 ≤ (pc : Int) + off then some (.inl (((pc : Int) + off).toNat, lv, r, w, k, n)) else none
    | none => none) else none
  | _ => none
/-- an array's type, its places -/
def xarr (w : XW) (exc : List (List XV)) (q : Nat × Nat) : Option (Nat × List XV) := if q.1 = 1 then (match w[q.2]? with
  | some (.inr x) => some x
  | _ => none) else if q.1 = 2 then (match exc[q.2]? with
  | some es => some (0, es)
  | none => none) else none
def xh_ald (ty kd : Nat) (exc : List (List XV)) (pc : Nat) (lv : XL) (st : List XV) (w : XW) (k n : Nat) : Option XR := match st with
  | .inl i :: .inr (.inr q) :: r => (match xarr w exc q with
    | some (t, es) => if (ty = t ∨ (ty = 3 ∧ 3 ≤ t)) then (match xread es i with
      | some x => if xkd x = kd then some (.inl (pc + 1, lv, x :: r, w, k, n)) else none
      | none => none) else none
    | none => none)
  | _ => none
def xh_ast (ty kd : Nat) (pc : Nat) (lv : XL) (st : List XV) (w : XW) (k n : Nat) : Option XR := match st with
  | x :: .inl i :: .inr (.inr q) :: r => if q.1 = 1 ∧ xkd x = kd then (match w[q.2]? with
    | some (.inr (t, es)) => if ty = t then (match xwrite es i x with
      | some es' => some (.inl (pc + 1, lv, r, w.set q.2 (.inr (t, es')), k, n))
      | none => none) else none
    | _ => none) else none
  | _ => none
def xbool : XV → Bool
  | .inl q => decide (0 ≤ q.1 ∧ q.2 ≤ 1)
  | _ => false
def xh_zst (pc : Nat) (lv : XL) (st : List XV) (w : XW) (k n : Nat) : Option XR := match st with
  | x :: _ => if xbool x then xh_ast 2 0 pc lv st w k n else none
  | _ => none
/-- a cell into an array of references: the class that the array's type names -/
def xh_aast (tc : Nat → Option Nat) (pc : Nat) (lv : XL) (st : List XV) (w : XW) (k n : Nat) : Option XR := match st with
  | .inr (.inr v) :: .inl i :: .inr (.inr q) :: r => if q.1 = 1 ∧ v.1 = 1 ∧ i.1 = i.2 then (match w[q.2]?, w[v.2]? with
    | some (.inr (t, es)), some (.inl (c, _)) => if tc t = some c then (match xwrite es i (.inr (.inr v)) with
      | some es' => some (.inl (pc + 1, lv, r, w.set q.2 (.inr (t, es')), k, n))
      | none => none) else none
    | _, _ => none) else none
  | _ => none
def xh_alen (exc : List (List XV)) (pc : Nat) (lv : XL) (st : List XV) (w : XW) (k n : Nat) : Option XR := match st with
  | .inr (.inr q) :: r => (match xarr w exc q with
    | some (_, es) => if es.length < 2147483648 then some (.inl (pc + 1, lv, xi es.length :: r, w, k, n)) else none
    | none => none)
  | _ => none
def xh_newa (d t : Nat) (ty : Option FieldType) (mk mn : Nat) (pc : Nat) (lv : XL) (st : List XV) (w : XW) (k n : Nat) : Option XR := match st with
  | .inl q :: r => if q.1 = q.2 ∧ 0 ≤ q.1 ∧ q.1 < 1000 ∧ k + 1 ≤ mk ∧ n + q.1.toNat ≤ mn then (match ty with
    | some f => (match xdef f with
      | some v => some (.inl (pc + d, lv, .inr (.inr (1, w.length)) :: r, w ++ [.inr (t, List.replicate q.1.toNat v)], k + 1, n + q.1.toNat))
      | none => none)
    | none => none) else none
  | _ => none
def xh_new (c : Nat) (fs : Option (List XV)) (mk mn : Nat) (pc : Nat) (lv : XL) (st : List XV) (w : XW) (k n : Nat) : Option XR := match fs with
  | some fs => if k + 1 ≤ mk ∧ n + fs.length ≤ mn then some (.inl (pc + 3, lv, .inr (.inr (1, w.length)) :: st, w ++ [.inl (c, fs)], k + 1, n + fs.length)) else none
  | none => none
def xh_get (c f : Nat) (pc : Nat) (lv : XL) (st : List XV) (w : XW) (k n : Nat) : Option XR := match st with
  | .inr (.inr q) :: r => if q.1 = 1 then (match w[q.2]? with
    | some (.inl (c', fs)) => if c' = c then (match fs[f]? with
      | some v => some (.inl (pc + 3, lv, v :: r, w, k, n))
      | none => none) else none
    | _ => none) else none
  | _ => none
def xh_put (c f : Nat) (ty : Option FieldType) (pc : Nat) (lv : XL) (st : List XV) (w : XW) (k n : Nat) : Option XR := match st with
  | x :: .inr (.inr q) :: r => if q.1 = 1 then (match w[q.2]?, ty with
    | some (.inl (c', fs)), some t => if c' = c ∧ f < fs.length ∧ xfit t x = true then some (.inl (pc + 3, lv, r, w.set q.2 (.inl (c, fs.set f x)), k, n)) else none
    | _, _ => none) else none
  | _ => none
def xh_oinit (M : XM) (pc : Nat) (lv : XL) (st : List XV) (w : XW) (k n : Nat) : Option XR := match st with
  | .inr (.inr q) :: r => if q.1 = 1 ∧ 1 ≤ xm_f M ∧ (r.map xcat).sum + 12 ≤ xm_o M then some (.inl (pc + 3, lv, r, w, k, n)) else none
  | _ => none
/-- the receiver: a cell of that class -/
def xrecv (w : XW) (c : Nat) : List XV → Bool
  | .inr (.inr q) :: _ => q.1 == 1 && (match w[q.2]? with
    | some (.inl x) => x.1 == c
    | _ => false)
  | _ => false
def xh_call (cf : XF) (M : XM) (N : Option XM) (j na : Nat) (recv : Bool) (pc : Nat) (lv : XL) (st : List XV) (w : XW) (k n : Nat) : Option XR := match N with
  | some N => if na ≤ st.length ∧ ((st.drop na).map xcat).sum ≤ 8 ∧ xm_f N + 1 ≤ xm_f M ∧ 8 + (xm_l N + 11) + xm_o N ≤ xm_o M ∧ k + xm_k N ≤ xm_k M ∧ n + xm_n N ≤ xm_n M ∧ (!recv || xrecv w (xm_i N) (st.take na).reverse) = true then (match cf j (st.take na).reverse w with
    | some q => some (.inl (pc + 3, lv, q.1.toList ++ st.drop na, q.2, k + xm_k N, n + xm_n N))
    | none => none) else none
  | none => none
def xz : Option FieldType → Bool
  | some .boolean => true
  | _ => false
def xh_ret (kd : Nat) (ty : Option FieldType) (st : List XV) (w : XW) (k n : Nat) : Option XR := match st with
  | [x] => if xkd x = kd ∧ (!xz ty || xbool x) = true then some (.inr (some x, w, k, n)) else none
  | _ => none
def xh_retv (st : List XV) (w : XW) (k n : Nat) : Option XR := match st with
  | [] => some (.inr (none, w, k, n))
  | _ => none
def xins (cf : XF) (MT : Nat → Option XM) (FT : Nat → Nat → Option FieldType) (FD : Nat → Option (List XV)) (TY : Nat → Option FieldType) (TC : Nat → Option Nat) (exc : List (List XV)) (M : XM) (i : Instr) (a b : Nat) (z : Int) (pc : Nat) (lv : XL) (st : List XV) (w : XW) (k n : Nat) : Option XR := match i with
  | .iconst _ => xh_push 1 (xi z) pc lv st w k n
  | .bipush _ => xh_push 2 (xi z) pc lv st w k n
  | .sipush _ => xh_push 3 (xi z) pc lv st w k n
  | .ldc _ => xh_push 2 (xi z) pc lv st w k n
  | .ldc_w _ => xh_push 3 (xi z) pc lv st w k n
  | .lconst _ => xh_push 1 (.inr (.inl (some z))) pc lv st w k n
  | .ldc2_w _ => xh_push 3 (.inr (.inl (some z))) pc lv st w k n
  | .aconst_null => xh_push 1 (.inr (.inr (0, 0))) pc lv st w k n
  | .iload_n j => xh_load 0 1 j.val pc lv st w k n
  | .iload j => xh_load 0 2 j pc lv st w k n
  | .lload_n j => xh_load 1 1 j.val pc lv st w k n
  | .lload j => xh_load 1 2 j pc lv st w k n
  | .aload_n j => xh_load 2 1 j.val pc lv st w k n
  | .aload j => xh_load 2 2 j pc lv st w k n
  | .istore_n j => xh_store 0 1 j.val (xm_l M) pc lv st w k n
  | .istore j => xh_store 0 2 j (xm_l M) pc lv st w k n
  | .lstore_n j => xh_store2 1 j.val (xm_l M) pc lv st w k n
  | .lstore j => xh_store2 2 j (xm_l M) pc lv st w k n
  | .astore_n j => xh_store 2 1 j.val (xm_l M) pc lv st w k n
  | .astore j => xh_store 2 2 j (xm_l M) pc lv st w k n
  | .iinc j _ => xh_iinc j (xm_l M) z pc lv st w k n
  | .iadd => xh_bin xadd pc lv st w k n
  | .isub => xh_bin xsub pc lv st w k n
  | .imul => xh_bin (xe2 (fun x y => x * y)) pc lv st w k n
  | .iand => xh_bin (xe2 (fun x y => x &&& y)) pc lv st w k n
  | .ior => xh_bin (xe2 (fun x y => x ||| y)) pc lv st w k n
  | .ixor => xh_bin (xe2 (fun x y => x ^^^ y)) pc lv st w k n
  | .ishl => xh_bin (xe2 (fun x y => x <<< (y &&& 31))) pc lv st w k n
  | .ishr => xh_bin (xe2 (fun x y => x >>> (y &&& 31))) pc lv st w k n
  | .iushr => xh_bin (xe2 (fun x y => (x.toUInt32 >>> (y.toUInt32 &&& Int32.toUInt32 31)).toInt32)) pc lv st w k n
  | .idiv => xh_div (xe2 (fun x y => x / y)) pc lv st w k n
  | .irem => xh_div (xe2 (fun x y => x - x / y * y)) pc lv st w k n
  | .ineg => xh_un (xe1 (fun x => -x)) pc lv st w k n
  | .i2b => xh_un (xe1 (fun x => x.toInt8.toInt32)) pc lv st w k n
  | .lneg => xh_lneg pc lv st w k n
  | .ladd => xh_lbin (xl2 (fun x y => x + y)) pc lv st w k n
  | .lsub => xh_lbin (xl2 (fun x y => x - y)) pc lv st w k n
  | .lmul => xh_lbin (xl2 (fun x y => x * y)) pc lv st w k n
  | .land => xh_lbin (xl2 (fun x y => x &&& y)) pc lv st w k n
  | .lor => xh_lbin (xl2 (fun x y => x ||| y)) pc lv st w k n
  | .lxor => xh_lbin (xl2 (fun x y => x ^^^ y)) pc lv st w k n
  | .lshl => xh_lsh (xls (fun x y => x <<< (y.toInt64 &&& 63))) pc lv st w k n
  | .lshr => xh_lsh (xls (fun x y => x >>> (y.toInt64 &&& 63))) pc lv st w k n
  | .lushr => xh_lsh (xls (fun x y => (x.toUInt64 >>> (y.toInt64.toUInt64 &&& Int64.toUInt64 63)).toInt64)) pc lv st w k n
  | .i2l => xh_i2l pc lv st w k n
  | .l2i => xh_l2i pc lv st w k n
  | .lcmp => xh_lcmp pc lv st w k n
  | .dup => xh_dup pc lv st w k n
  | .dup2 => xh_dup2 pc lv st w k n
  | .ifCond c _ => xh_if c a pc lv st w k n
  | .if_icmp c _ => xh_icmp c a pc lv st w k n
  | .ifnull _ => xh_null false a pc lv st w k n
  | .ifnonnull _ => xh_null true a pc lv st w k n
  | .goto _ => xh_goto a lv st w k n
  | .tableswitch d lo hi offs => xh_table d lo hi offs pc lv st w k n
  | .iaload => xh_ald 0 0 exc pc lv st w k n
  | .laload => xh_ald 1 1 exc pc lv st w k n
  | .baload => xh_ald 2 0 exc pc lv st w k n
  | .aaload => xh_ald 3 2 exc pc lv st w k n
  | .iastore => xh_ast 0 0 pc lv st w k n
  | .lastore => xh_ast 1 1 pc lv st w k n
  | .bastore => xh_zst pc lv st w k n
  | .aastore => xh_aast TC pc lv st w k n
  | .arraylength => xh_alen exc pc lv st w k n
  | .newarray _ => xh_newa 2 a (TY a) (xm_k M) (xm_n M) pc lv st w k n
  | .anewarray _ => xh_newa 3 a (TY a) (xm_k M) (xm_n M) pc lv st w k n
  | .new _ => xh_new a (FD a) (xm_k M) (xm_n M) pc lv st w k n
  | .getfield _ => xh_get a b pc lv st w k n
  | .putfield _ => xh_put a b (FT a b) pc lv st w k n
  | .getstatic _ => xh_push 3 (.inr (.inr (2, a))) pc lv st w k n
  | .invokevirtual _ => xh_call cf M (MT a) a b true pc lv st w k n
  | .invokestatic _ => xh_call cf M (MT a) a b false pc lv st w k n
  | .invokespecial _ => if a = 9999 then xh_oinit M pc lv st w k n else xh_call cf M (MT a) a b true pc lv st w k n
  | .ireturn => xh_ret 0 (xm_r M) st w k n
  | .lreturn => xh_ret 1 none st w k n
  | .areturn => xh_ret 2 none st w k n
  | .return_ => xh_retv st w k n
  | _ => none
end
section
/-! ===== what a bound says of a value, of a list, of the locals, of the world ===== -/
def xv_in (as ex : List Nat) : XV → Value → Prop
  | .inl q, v => ∃ x : Int32, v = .int x ∧ q.1 ≤ x.toInt ∧ x.toInt ≤ q.2
  | .inr (.inl o), v => ∃ y : Int64, v = .long y ∧ ∀ z, o = some z → y.toInt = z
  | .inr (.inr q), v => (q.1 = 0 ∧ v = .null) ∨ ∃ a : Nat, v = .ref a ∧ ((q.1 = 1 ∧ as[q.2]? = some a) ∨ (q.1 = 2 ∧ ex[q.2]? = some a))
def xl_in (as ex : List Nat) : List XV → List Value → Prop
  | [], vs => vs = []
  | x :: xs, vs => ∃ v vs', vs = v :: vs' ∧ xv_in as ex x v ∧ xl_in as ex xs vs'
def xk_in (as ex : List Nat) : XL → List (Nat × Value) → Prop
  | [], l => l = []
  | q :: xs, l => ∃ v l', l = (q.1, v) :: l' ∧ xv_in as ex q.2 v ∧ xk_in as ex xs l'
theorem xv_in.cat {as ex : List Nat} : ∀ {x : XV} {v : Value}, xv_in as ex x v → v.category = xcat x
  | .inl _, _, ⟨_, e, _⟩ => by subst e; rfl
  | .inr (.inl _), _, ⟨_, e, _⟩ => by subst e; rfl
  | .inr (.inr _), _, h => by
    rcases h with ⟨_, e⟩ | ⟨_, e, _⟩ <;> subst e <;> rfl
theorem xv_in.mono {as ex : List Nat} (t : List Nat) : ∀ {x : XV} {v : Value}, xv_in as ex x v → xv_in (as ++ t) ex x v
  | .inl _, _, h => h
  | .inr (.inl _), _, h => h
  | .inr (.inr q), v, h => by
    rcases h with h | ⟨a, e, ⟨h1, h2⟩ | h⟩
    · exact Or.inl h
    · exact Or.inr ⟨a, e, Or.inl ⟨h1, by rw [List.getElem?_append_left (List.getElem?_eq_some_iff.mp h2).1]; exact h2⟩⟩
    · exact Or.inr ⟨a, e, Or.inr h⟩
theorem xl_in.mono {as ex : List Nat} (t : List Nat) : ∀ {xs : List XV} {vs : List Value}, xl_in as ex xs vs → xl_in (as ++ t) ex xs vs
  | [], _, h => h
  | _ :: _, _, ⟨v, vs', e, h, k⟩ => ⟨v, vs', e, h.mono t, xl_in.mono t k⟩
theorem xk_in.mono {as ex : List Nat} (t : List Nat) : ∀ {xs : XL} {vs : List (Nat × Value)}, xk_in as ex xs vs → xk_in (as ++ t) ex xs vs
  | [], _, h => h
  | _ :: _, _, ⟨v, vs', e, h, k⟩ => ⟨v, vs', e, h.mono t, xk_in.mono t k⟩
theorem xl_in.get {as ex : List Nat} : ∀ {xs : List XV} {vs : List Value} {i : Nat} {x : XV}, xl_in as ex xs vs → xs[i]? = some x → ∃ v, vs[i]? = some v ∧ xv_in as ex x v
  | [], _, _, _, _, hi => by simp at hi
  | y :: xs, _, i, x, ⟨v, vs', e, h, k⟩, hi => by
    subst e
    cases i with
    | zero =>
      rw [List.getElem?_cons_zero] at hi
      cases hi
      exact ⟨v, by rw [List.getElem?_cons_zero], h⟩
    | succ i =>
      rw [List.getElem?_cons_succ] at hi
      obtain ⟨u, h1, h2⟩ := xl_in.get k hi
      exact ⟨u, by rw [List.getElem?_cons_succ]; exact h1, h2⟩
theorem xl_in.set {as ex : List Nat} {x : XV} {v : Value} (hv : xv_in as ex x v) : ∀ {xs : List XV} {vs : List Value} {i : Nat}, xl_in as ex xs vs → xl_in as ex (xs.set i x) (vs.set i v)
  | [], _, _, h => by
    have h : _ = [] := h
    subst h
    exact rfl
  | y :: xs, _, i, ⟨u, vs', e, h, k⟩ => by
    subst e
    cases i with
    | zero => exact ⟨v, vs', rfl, hv, k⟩
    | succ i => exact ⟨u, vs'.set i v, rfl, h, xl_in.set hv k⟩
theorem xl_in.len {as ex : List Nat} : ∀ {xs : List XV} {vs : List Value}, xl_in as ex xs vs → vs.length = xs.length
  | [], _, h => by
    have h : _ = [] := h
    subst h
    rfl
  | _ :: _, _, ⟨v, vs', e, _, k⟩ => by
    subst e
    simp [xl_in.len k]
theorem xl_in.app {as ex : List Nat} {ys : List XV} {us : List Value} (hy : xl_in as ex ys us) : ∀ {xs : List XV} {vs : List Value}, xl_in as ex xs vs → xl_in as ex (xs ++ ys) (vs ++ us)
  | [], _, h => by
    have h : _ = [] := h
    subst h
    exact hy
  | _ :: _, _, ⟨v, vs', e, h, k⟩ => by
    subst e
    exact ⟨v, vs' ++ us, rfl, h, xl_in.app hy k⟩
theorem xl_in.rev {as ex : List Nat} : ∀ {xs : List XV} {vs : List Value}, xl_in as ex xs vs → xl_in as ex xs.reverse vs.reverse
  | [], _, h => by
    have h : _ = [] := h
    subst h
    exact rfl
  | x :: _, _, ⟨v, vs', e, h, k⟩ => by
    subst e
    rw [List.reverse_cons, List.reverse_cons]
    have h1 : xl_in as ex [x] [v] := ⟨v, [], rfl, h, rfl⟩
    exact xl_in.app h1 (xl_in.rev k)
theorem xl_in.take {as ex : List Nat} : ∀ {xs : List XV} {vs : List Value} (n : Nat), xl_in as ex xs vs → xl_in as ex (xs.take n) (vs.take n)
  | [], _, _, h => by
    have h : _ = [] := h
    subst h
    simp [xl_in]
  | _ :: _, _, 0, _ => by simp [xl_in]
  | _ :: _, _, n + 1, ⟨v, vs', e, h, k⟩ => by
    subst e
    exact ⟨v, vs'.take n, rfl, h, xl_in.take n k⟩
theorem xl_in.drop {as ex : List Nat} : ∀ {xs : List XV} {vs : List Value} (n : Nat), xl_in as ex xs vs → xl_in as ex (xs.drop n) (vs.drop n)
  | [], _, _, h => by
    have h : _ = [] := h
    subst h
    simp [xl_in]
  | _ :: _, _, 0, h => h
  | _ :: _, _, n + 1, ⟨v, vs', e, _, k⟩ => by
    subst e
    exact xl_in.drop n k
theorem xl_in.cats {as ex : List Nat} : ∀ {xs : List XV} {vs : List Value}, xl_in as ex xs vs → (vs.map fun v => v.category).sum = (xs.map xcat).sum
  | [], _, h => by
    have h : _ = [] := h
    subst h
    rfl
  | _ :: _, _, ⟨v, vs', e, h, k⟩ => by
    subst e
    simp [xl_in.cats k, h.cat]
theorem xk_in.get {as ex : List Nat} : ∀ {xs : XL} {l : List (Nat × Value)} {i : Nat} {x : XV}, xk_in as ex xs l → xk_get xs i = some x → ∃ (k : Nat) (v : Value), l[k]? = some (i, v) ∧ xv_in as ex x v
  | [], _, _, _, _, hi => by cases hi
  | q :: xs, _, i, x, ⟨v, l', e, h, k⟩, hi => by
    subst e
    unfold xk_get at hi
    by_cases hq : q.1 = i
    · rw [if_pos hq] at hi
      cases hi
      exact ⟨0, v, by rw [List.getElem?_cons_zero, hq], h⟩
    · rw [if_neg hq] at hi
      obtain ⟨j, u, h1, h2⟩ := xk_in.get k hi
      exact ⟨j + 1, u, by rw [List.getElem?_cons_succ]; exact h1, h2⟩
theorem xk_in.filter {as ex : List Nat} {px : Nat × XV → Bool} {pl : Nat × Value → Bool} (hp : ∀ (q : Nat × XV) (v : Value), xv_in as ex q.2 v → pl (q.1, v) = px q) : ∀ {xs : XL} {l : List (Nat × Value)}, xk_in as ex xs l → xk_in as ex (xs.filter px) (l.filter pl)
  | [], _, h => by
    have h : _ = [] := h
    subst h
    exact rfl
  | q :: xs, _, ⟨v, l', e, h, k⟩ => by
    subst e
    have ih := xk_in.filter hp k
    rw [List.filter_cons, List.filter_cons, hp q v h]
    by_cases hq : px q = true
    · rw [if_pos hq, if_pos hq]
      exact ⟨v, _, rfl, h, ih⟩
    · rw [if_neg hq, if_neg hq]
      exact ih
theorem xk_in.set1 {as ex : List Nat} {xs : XL} {l : List (Nat × Value)} {i : Nat} {x : XV} {v : Value} (h : xk_in as ex xs l) (hv : xv_in as ex x v) : xk_in as ex (xk_set1 xs i x) ((i, v) :: l.filter (fun q => !(q.1 == i) && !(q.1 + 1 == i && q.2.category == 2))) :=
  ⟨v, _, rfl, hv, xk_in.filter (fun q u hu => by simp only [hu.cat]) h⟩
theorem xk_in.set2 {as ex : List Nat} {xs : XL} {l : List (Nat × Value)} {i : Nat} {x : XV} {v : Value} (h : xk_in as ex xs l) (hv : xv_in as ex x v) : xk_in as ex (xk_set2 xs i x) ((i, v) :: l.filter (fun q => !(q.1 == i) && (!(q.1 == i + 1) && !(q.1 + 1 == i && q.2.category == 2)))) :=
  ⟨v, _, rfl, hv, xk_in.filter (fun q u hu => by simp only [hu.cat]) h⟩
theorem xk_in.args {as ex : List Nat} : ∀ {xs : List XV} {vs : List Value} (i : Nat), xl_in as ex xs vs → xk_in as ex (xk_args i xs) (lv_args i vs)
  | [], _, _, h => by
    have h : _ = [] := h
    subst h
    exact rfl
  | x :: xs, _, i, ⟨v, vs', e, h, k⟩ => by
    subst e
    refine ⟨v, _, rfl, h, ?_⟩
    rw [h.cat]
    exact xk_in.args _ k
-- the world
def xa_get (x : vp_A) (j : Nat) : Value := match x.2 with
  | .inl f => .int (f j)
  | .inr (.inl f) => .long (f j)
  | .inr (.inr (.inl f)) => .float (f j)
  | .inr (.inr (.inr (.inl f))) => .double (f j)
  | .inr (.inr (.inr (.inr f))) => va_rf (f j)
def xa_k (t : Nat) (x : vp_A) : Prop := match x.2 with
  | .inl _ => t = 0 ∨ t = 2
  | .inr (.inl _) => t = 1
  | .inr (.inr (.inl _)) => False
  | .inr (.inr (.inr (.inl _))) => False
  | .inr (.inr (.inr (.inr _))) => 3 ≤ t ∧ t < 7
def xc_in (as ex : List Nat) (tA : Nat → ClassId) : XC → va_E → Prop
  | .inl o, e => ∃ vs, e = .inr (o.1, vs) ∧ xl_in as ex o.2 vs
  | .inr o, e => ∃ x : vp_A, e = .inl (tA o.1, x) ∧ x.1 = o.2.length ∧ xa_k o.1 x ∧ ∀ j y, o.2[j]? = some y → xv_in as ex y (xa_get x j)
theorem xc_in.mono {as ex : List Nat} {tA : Nat → ClassId} (t : List Nat) : ∀ {c : XC} {e : va_E}, xc_in as ex tA c e → xc_in (as ++ t) ex tA c e
  | .inl _, _, ⟨vs, e, h⟩ => ⟨vs, e, h.mono t⟩
  | .inr _, _, ⟨x, e, h1, h2, h3⟩ => ⟨x, e, h1, h2, fun j y hy => (h3 j y hy).mono t⟩
abbrev xad (ws : va_W) : List Nat := ws.map (fun q => q.1)
def xw_in (ex : List Nat) (tA : Nat → ClassId) (w : XW) (ws : va_W) : Prop := w.length = ws.length ∧ ∀ (i : Nat) (c : XC), w[i]? = some c → ∃ (a : Nat) (e : va_E), ws[i]? = some (a, e) ∧ xc_in (xad ws) ex tA c e
theorem xad_set {ws : va_W} {i a : Nat} {e0 e : va_E} (h : ws[i]? = some (a, e0)) : xad (ws.set i (a, e)) = xad ws := by
  apply List.ext_getElem?
  intro j
  unfold xad
  rw [List.getElem?_map, List.getElem?_map]
  by_cases hj : j = i
  · subst hj
    rw [List.getElem?_set_self (List.getElem?_eq_some_iff.mp h).1, h]
    rfl
  · rw [List.getElem?_set_ne (Ne.symm hj)]
theorem xad_push (ws : va_W) (a : Nat) (e : va_E) : xad (ws ++ [(a, e)]) = xad ws ++ [a] := by simp [xad]
theorem xad_at {ws : va_W} {i a : Nat} (h : (xad ws)[i]? = some a) : ∃ e, ws[i]? = some (a, e) := by
  unfold xad at h
  rw [List.getElem?_map] at h
  cases hw : ws[i]? with
  | none => rw [hw] at h; cases h
  | some q =>
    rw [hw] at h
    obtain ⟨b, e⟩ := q
    have h : some b = some a := h
    cases h
    exact ⟨e, rfl⟩
theorem xw_in.at {ex : List Nat} {tA : Nat → ClassId} {w : XW} {ws : va_W} {i a : Nat} {c : XC} (h : xw_in ex tA w ws) (hc : w[i]? = some c) (ha : (xad ws)[i]? = some a) : ∃ e, ws[i]? = some (a, e) ∧ xc_in (xad ws) ex tA c e := by
  obtain ⟨b, e, h1, h2⟩ := h.2 i c hc
  obtain ⟨e', h3⟩ := xad_at ha
  rw [h1] at h3
  cases h3
  exact ⟨e, h1, h2⟩
theorem xw_in.set {ex : List Nat} {tA : Nat → ClassId} {w : XW} {ws : va_W} {i a : Nat} {c : XC} {e0 e : va_E} (h : xw_in ex tA w ws) (hi : ws[i]? = some (a, e0)) (hc : xc_in (xad ws) ex tA c e) : xw_in ex tA (w.set i c) (ws.set i (a, e)) := by
  have hl := (List.getElem?_eq_some_iff.mp hi).1
  refine ⟨by simp [h.1], fun j d hj => ?_⟩
  rw [xad_set hi]
  by_cases hji : j = i
  · subst hji
    rw [List.getElem?_set_self (by rw [h.1]; exact hl)] at hj
    cases hj
    exact ⟨a, e, by rw [List.getElem?_set_self hl], hc⟩
  · rw [List.getElem?_set_ne (Ne.symm hji)] at hj
    obtain ⟨b, f, h1, h2⟩ := h.2 j d hj
    exact ⟨b, f, by rw [List.getElem?_set_ne (Ne.symm hji)]; exact h1, h2⟩
theorem xw_in.push {ex : List Nat} {tA : Nat → ClassId} {w : XW} {ws : va_W} {a : Nat} {c : XC} {e : va_E} (h : xw_in ex tA w ws) (hc : xc_in (xad ws ++ [a]) ex tA c e) : xw_in ex tA (w ++ [c]) (ws ++ [(a, e)]) := by
  refine ⟨by simp [h.1], fun j d hj => ?_⟩
  rw [xad_push]
  by_cases hl : j < w.length
  · rw [List.getElem?_append_left hl] at hj
    obtain ⟨b, f, h1, h2⟩ := h.2 j d hj
    exact ⟨b, f, by rw [List.getElem?_append_left (by rw [← h.1]; exact hl)]; exact h1, h2.mono [a]⟩
  · rw [List.getElem?_append_right (by omega)] at hj
    have hz : j - w.length < 1 := (List.getElem?_eq_some_iff.mp hj).1
    have hj0 : j = w.length := by omega
    subst hj0
    rw [Nat.sub_self] at hj
    cases hj
    exact ⟨a, e, by rw [h.1]; simp, hc⟩
-- numbers
theorem x_rng (x : Int32) : -2147483648 ≤ x.toInt ∧ x.toInt ≤ 2147483647 := by
  have h1 := Int32.le_toInt x
  have h2 := Int32.toInt_lt x
  omega
theorem x_one {q : Int × Int} {x : Int32} (h1 : q.1 ≤ x.toInt) (h2 : x.toInt ≤ q.2) (e : q.1 = q.2) : Int32.ofInt q.1 = x := by
  have h : x.toInt = q.1 := by omega
  rw [← h]
  exact Int32.ofInt_toInt x
theorem x_top {q : Int × Int} (hq : q = xtop) (x : Int32) : q.1 ≤ x.toInt ∧ x.toInt ≤ q.2 := by
  subst hq
  exact x_rng x
def xin2 (f : Int × Int → Int × Int → Int × Int) (g : Int32 → Int32 → Int32) : Prop := ∀ (p q : Int × Int) (x y : Int32), p.1 ≤ x.toInt → x.toInt ≤ p.2 → q.1 ≤ y.toInt → y.toInt ≤ q.2 → (f p q).1 ≤ (g x y).toInt ∧ (g x y).toInt ≤ (f p q).2
theorem xe2_in (g : Int32 → Int32 → Int32) : xin2 (xe2 g) g := by
  intro p q x y h1 h2 h3 h4
  unfold xe2
  by_cases h : p.1 = p.2 ∧ q.1 = q.2
  · rw [if_pos h, x_one h1 h2 h.1, x_one h3 h4 h.2]
    exact ⟨Int.le_refl _, Int.le_refl _⟩
  · rw [if_neg h]
    exact x_rng _
theorem xe1_in (g : Int32 → Int32) (p : Int × Int) (x : Int32) (h1 : p.1 ≤ x.toInt) (h2 : x.toInt ≤ p.2) : (xe1 g p).1 ≤ (g x).toInt ∧ (g x).toInt ≤ (xe1 g p).2 := by
  unfold xe1
  by_cases h : p.1 = p.2
  · rw [if_pos h, x_one h1 h2 h]
    exact ⟨Int.le_refl _, Int.le_refl _⟩
  · rw [if_neg h]
    exact x_rng _
theorem x_bmod {z : Int} (h1 : -2147483648 ≤ z) (h2 : z < 2147483648) : z.bmod (2 ^ 32) = z := by
  rw [Int.bmod_eq_of_le (by omega) (by omega)]
theorem xadd_in : xin2 xadd (fun x y => x + y) := by
  intro p q x y h1 h2 h3 h4
  unfold xadd
  by_cases h : -2147483648 ≤ p.1 + q.1 ∧ p.2 + q.2 ≤ 2147483647
  · rw [if_pos h]
    have e : (x + y).toInt = x.toInt + y.toInt := by rw [Int32.toInt_add, x_bmod (by omega) (by omega)]
    show p.1 + q.1 ≤ (x + y).toInt ∧ (x + y).toInt ≤ p.2 + q.2
    rw [e]
    omega
  · rw [if_neg h]
    exact xe2_in _ p q x y h1 h2 h3 h4
theorem xsub_in : xin2 xsub (fun x y => x - y) := by
  intro p q x y h1 h2 h3 h4
  unfold xsub
  by_cases h : -2147483648 ≤ p.1 - q.2 ∧ p.2 - q.1 ≤ 2147483647
  · rw [if_pos h]
    have e : (x - y).toInt = x.toInt - y.toInt := by rw [Int32.toInt_sub, x_bmod (by omega) (by omega)]
    show p.1 - q.2 ≤ (x - y).toInt ∧ (x - y).toInt ≤ p.2 - q.1
    rw [e]
    omega
  · rw [if_neg h]
    exact xe2_in _ p q x y h1 h2 h3 h4
def xlin (o : Option Int) (y : Int64) : Prop := ∀ z, o = some z → y.toInt = z
theorem x_oneL {a : Int} {y : Int64} (h : xlin (some a) y) : Int64.ofInt a = y := by
  rw [← h a rfl]
  exact Int64.ofInt_toInt y
theorem xl2_in (g : Int64 → Int64 → Int64) {a b : Option Int} {x y : Int64} (ha : xlin a x) (hb : xlin b y) : xlin (xl2 g a b) (g x y) := by
  intro z hz
  cases a with
  | none => cases hz
  | some a =>
    cases b with
    | none => cases hz
    | some b =>
      have hz : some (g (Int64.ofInt a) (Int64.ofInt b)).toInt = some z := hz
      rw [x_oneL ha, x_oneL hb] at hz
      exact Option.some.inj hz
theorem xls_in (g : Int64 → Int32 → Int64) (h0 : ∀ y, g 0 y = 0) {a : Option Int} {q : Int × Int} {x : Int64} {y : Int32} (ha : xlin a x) (h1 : q.1 ≤ y.toInt) (h2 : y.toInt ≤ q.2) : xlin (xls g a q) (g x y) := by
  intro z hz
  cases a with
  | none => cases hz
  | some a =>
    unfold xls at hz
    dsimp only at hz
    by_cases h : q.1 = q.2
    · rw [if_pos h, x_oneL ha, x_one h1 h2 h] at hz
      exact Option.some.inj hz
    · rw [if_neg h] at hz
      by_cases e : a = 0
      · rw [if_pos e] at hz
        subst e
        have hx : x = 0 := by
          have := x_oneL ha
          rw [← this]
          rfl
        rw [hx, h0]
        exact Option.some.inj hz
      · rw [if_neg e] at hz
        cases hz
theorem xlt_in {p q : Int × Int} {x y : Int32} {b : Bool} (h1 : p.1 ≤ x.toInt) (h2 : x.toInt ≤ p.2) (h3 : q.1 ≤ y.toInt) (h4 : y.toInt ≤ q.2) (h : xlt p q = some b) : (x < y) ↔ b = true := by
  rw [Int32.lt_iff_toInt_lt]
  unfold xlt at h
  by_cases c1 : p.2 < q.1
  · rw [if_pos c1] at h
    cases h
    exact ⟨fun _ => rfl, fun _ => by omega⟩
  · rw [if_neg c1] at h
    by_cases c2 : q.2 ≤ p.1
    · rw [if_pos c2] at h
      cases h
      exact ⟨fun _ => by omega, fun h => by cases h⟩
    · rw [if_neg c2] at h
      cases h
theorem xeq_in {p q : Int × Int} {x y : Int32} {b : Bool} (h1 : p.1 ≤ x.toInt) (h2 : x.toInt ≤ p.2) (h3 : q.1 ≤ y.toInt) (h4 : y.toInt ≤ q.2) (h : xeq p q = some b) : (x = y) ↔ b = true := by
  rw [← Int32.toInt_inj]
  unfold xeq at h
  by_cases c1 : p.1 = p.2 ∧ q.1 = q.2 ∧ p.1 = q.1
  · rw [if_pos c1] at h
    cases h
    exact ⟨fun _ => rfl, fun _ => by omega⟩
  · rw [if_neg c1] at h
    by_cases c2 : p.2 < q.1 ∨ q.2 < p.1
    · rw [if_pos c2] at h
      cases h
      exact ⟨fun _ => by omega, fun h => by cases h⟩
    · rw [if_neg c2] at h
      cases h
theorem xno_in {o : Option Bool} {b : Bool} {P : Prop} (h : xno o = some b) (k : ∀ b', o = some b' → (P ↔ b' = true)) : (¬ P) ↔ b = true := by
  cases o with
  | none => cases h
  | some a =>
    have ka := k a rfl
    cases a with
    | true =>
      cases h
      exact ⟨fun h => absurd (ka.mpr rfl) h, fun h => by cases h⟩
    | false =>
      cases h
      exact ⟨fun _ => rfl, fun _ hp => by cases ka.mp hp⟩
end
section
/-! ===== a row a family: the machine at a configuration goes on to the next one ===== -/
def xvk : Nat → Value → Prop
  | 0, v => ∃ y : Int32, v = .int y
  | 1, v => ∃ y : Int64, v = .long y
  | 2, v => v = .null ∨ ∃ a : Nat, v = .ref a
  | _, _ => False
theorem xv_in.vk {as ex : List Nat} : ∀ {x : XV} {v : Value}, xv_in as ex x v → xvk (xkd x) v
  | .inl _, _, ⟨x, e, _⟩ => ⟨x, e⟩
  | .inr (.inl _), _, ⟨x, e, _⟩ => ⟨x, e⟩
  | .inr (.inr _), _, h => by
    rcases h with ⟨_, e⟩ | ⟨a, e, _⟩
    · exact Or.inl e
    · exact Or.inr ⟨a, e⟩
theorem xh2_l {as ex : List Nat} {v : Value} : ∀ {x y z : XV}, xh2 x y = some z → xv_in as ex x v → xv_in as ex z v
  | .inl p, .inl q, _, h, ⟨u, e, h1, h2⟩ => by
    cases h
    refine ⟨u, e, ?_, ?_⟩
    · show (if p.1 ≤ q.1 then p.1 else q.1) ≤ u.toInt
      split <;> omega
    · show u.toInt ≤ (if p.2 ≤ q.2 then q.2 else p.2)
      split <;> omega
  | .inr (.inl a), .inr (.inl b), _, h, ⟨u, e, h1⟩ => by
    cases h
    refine ⟨u, e, fun z hz => ?_⟩
    by_cases hab : a = b
    · rw [if_pos hab] at hz
      exact h1 z hz
    · rw [if_neg hab] at hz
      cases hz
  | .inr (.inr a), .inr (.inr b), z, h, hv => by
    have h : (if a = b then some (Sum.inr (Sum.inr a)) else none) = some z := h
    by_cases hab : a = b
    · rw [if_pos hab] at h
      cases h
      exact hv
    · rw [if_neg hab] at h
      cases h
  | .inl _, .inr (.inl _), _, h, _ => by cases h
  | .inl _, .inr (.inr _), _, h, _ => by cases h
  | .inr (.inl _), .inl _, _, h, _ => by cases h
  | .inr (.inl _), .inr (.inr _), _, h, _ => by cases h
  | .inr (.inr _), .inl _, _, h, _ => by cases h
  | .inr (.inr _), .inr (.inl _), _, h, _ => by cases h
theorem xh2_r {as ex : List Nat} {v : Value} : ∀ {x y z : XV}, xh2 x y = some z → xv_in as ex y v → xv_in as ex z v
  | .inl p, .inl q, _, h, ⟨u, e, h1, h2⟩ => by
    cases h
    refine ⟨u, e, ?_, ?_⟩
    · show (if p.1 ≤ q.1 then p.1 else q.1) ≤ u.toInt
      split <;> omega
    · show u.toInt ≤ (if p.2 ≤ q.2 then q.2 else p.2)
      split <;> omega
  | .inr (.inl a), .inr (.inl b), _, h, ⟨u, e, h1⟩ => by
    cases h
    refine ⟨u, e, fun z hz => ?_⟩
    by_cases hab : a = b
    · rw [if_pos hab, hab] at hz
      exact h1 z hz
    · rw [if_neg hab] at hz
      cases hz
  | .inr (.inr a), .inr (.inr b), z, h, hv => by
    have h : (if a = b then some (Sum.inr (Sum.inr a)) else none) = some z := h
    by_cases hab : a = b
    · rw [if_pos hab] at h
      cases h
      rw [hab]
      exact hv
    · rw [if_neg hab] at h
      cases h
  | .inl _, .inr (.inl _), _, h, _ => by cases h
  | .inl _, .inr (.inr _), _, h, _ => by cases h
  | .inr (.inl _), .inl _, _, h, _ => by cases h
  | .inr (.inl _), .inr (.inr _), _, h, _ => by cases h
  | .inr (.inr _), .inl _, _, h, _ => by cases h
  | .inr (.inr _), .inr (.inl _), _, h, _ => by cases h
theorem xhull_in {as ex : List Nat} {v : Value} : ∀ {l : List XV} {y z : XV}, xhull l = some z → y ∈ l → xv_in as ex y v → xv_in as ex z v
  | [], _, _, _, hy, _ => by cases hy
  | [x], y, z, h, hy, hv => by
    have h : some x = some z := h
    cases h
    rw [List.mem_singleton.mp hy] at hv
    exact hv
  | x :: u :: l, y, z, h, hy, hv => by
    unfold xhull at h
    dsimp only at h
    cases hh : xhull (u :: l) with
    | none => rw [hh] at h; cases h
    | some g =>
      rw [hh] at h
      dsimp only at h
      rcases List.mem_cons.mp hy with e | hm
      · subst e
        exact xh2_l h hv
      · exact xh2_r h (xhull_in hh hm hv)
theorem xread_in {as ex : List Nat} {es : List XV} {q : Int × Int} {x : XV} {i : Int32} (h : xread es q = some x) (h1 : q.1 ≤ i.toInt) (h2 : i.toInt ≤ q.2) : vp_in i es.length ∧ ∃ y, es[i.toNatClampNeg]? = some y ∧ ∀ v, xv_in as ex y v → xv_in as ex x v := by
  unfold xread at h
  by_cases hb : 0 ≤ q.1 ∧ q.2 < es.length
  · rw [if_pos hb] at h
    have hin : vp_in i es.length := vp_in_iff.mpr ⟨by omega, by omega⟩
    refine ⟨hin, ?_⟩
    have hn : i.toNatClampNeg = i.toInt.toNat := rfl
    by_cases he : q.1 = q.2
    · rw [if_pos he] at h
      have : i.toInt = q.1 := by omega
      rw [hn, this]
      exact ⟨x, h, fun _ hv => hv⟩
    · rw [if_neg he] at h
      have hlt : i.toInt.toNat < es.length := by omega
      refine ⟨es[i.toInt.toNat], by rw [hn, List.getElem?_eq_getElem hlt], fun v hv => xhull_in h ?_ hv⟩
      apply List.mem_of_getElem? (i := i.toInt.toNat - q.1.toNat)
      rw [List.getElem?_take, if_pos (by omega), List.getElem?_drop, show q.1.toNat + (i.toInt.toNat - q.1.toNat) = i.toInt.toNat by omega, List.getElem?_eq_getElem hlt]
  · rw [if_neg hb] at h
    cases h
theorem xwr_in {as ex : List Nat} {v : XV} : ∀ {es es' : List XV} {lo k : Nat}, xwr v es lo k = some es' → es'.length = es.length ∧ ∀ (j : Nat) (y : XV), es'[j]? = some y → ∃ y0, es[j]? = some y0 ∧ (∀ u, xv_in as ex y0 u → xv_in as ex y u) ∧ (lo ≤ j → j < lo + k → ∀ u, xv_in as ex v u → xv_in as ex y u)
  | [], es', lo, k, h => by
    have h : some ([] : List XV) = some es' := by
      cases lo <;> cases k <;> exact h
    cases h
    exact ⟨rfl, fun j y hy => by simp at hy⟩
  | e :: l, es', lo + 1, k, h => by
    unfold xwr at h
    cases hh : xwr v l lo k with
    | none => rw [hh] at h; cases h
    | some l' =>
      rw [hh] at h
      cases h
      obtain ⟨i1, i2⟩ := xwr_in (as := as) (ex := ex) hh
      refine ⟨by simp [i1], fun j y hy => ?_⟩
      cases j with
      | zero =>
        rw [List.getElem?_cons_zero] at hy
        cases hy
        exact ⟨e, by rw [List.getElem?_cons_zero], fun _ hu => hu, fun h => by omega⟩
      | succ j =>
        rw [List.getElem?_cons_succ] at hy
        obtain ⟨y0, a1, a2, a3⟩ := i2 j y hy
        exact ⟨y0, by rw [List.getElem?_cons_succ]; exact a1, a2, fun h1 h2 => a3 (by omega) (by omega)⟩
  | e :: l, es', 0, k + 1, h => by
    unfold xwr at h
    cases hz : xh2 e v with
    | none => rw [hz] at h; cases h
    | some z =>
      cases hh : xwr v l 0 k with
      | none => rw [hz, hh] at h; cases h
      | some l' =>
        rw [hz, hh] at h
        cases h
        obtain ⟨i1, i2⟩ := xwr_in (as := as) (ex := ex) hh
        refine ⟨by simp [i1], fun j y hy => ?_⟩
        cases j with
        | zero =>
          rw [List.getElem?_cons_zero] at hy
          cases hy
          exact ⟨e, by rw [List.getElem?_cons_zero], fun _ hu => xh2_l hz hu, fun _ _ _ hu => xh2_r hz hu⟩
        | succ j =>
          rw [List.getElem?_cons_succ] at hy
          obtain ⟨y0, a1, a2, a3⟩ := i2 j y hy
          exact ⟨y0, by rw [List.getElem?_cons_succ]; exact a1, a2, fun h1 h2 => a3 (by omega) (by omega)⟩
  | e :: l, es', 0, 0, h => by
    have h : some (e :: l) = some es' := h
    cases h
    exact ⟨rfl, fun j y hy => ⟨y, hy, fun _ hu => hu, fun h1 h2 => by omega⟩⟩
theorem xwrite_in {as ex : List Nat} {es es' : List XV} {q : Int × Int} {v : XV} {i : Int32} (h : xwrite es q v = some es') (h1 : q.1 ≤ i.toInt) (h2 : i.toInt ≤ q.2) : vp_in i es.length ∧ es'.length = es.length ∧ ∀ (j : Nat) (y : XV), es'[j]? = some y → (j = i.toNatClampNeg → ∀ u, xv_in as ex v u → xv_in as ex y u) ∧ (j ≠ i.toNatClampNeg → ∃ y0, es[j]? = some y0 ∧ ∀ u, xv_in as ex y0 u → xv_in as ex y u) := by
  unfold xwrite at h
  by_cases hb : 0 ≤ q.1 ∧ q.2 < es.length
  · rw [if_pos hb] at h
    have hin : vp_in i es.length := vp_in_iff.mpr ⟨by omega, by omega⟩
    have hn : i.toNatClampNeg = i.toInt.toNat := rfl
    refine ⟨hin, ?_⟩
    by_cases he : q.1 = q.2
    · rw [if_pos he] at h
      cases h
      have hq : q.1.toNat = i.toInt.toNat := by omega
      rw [hn, ← hq]
      refine ⟨by simp, fun j y hy => ⟨fun ej u hu => ?_, fun nj => ?_⟩⟩
      · subst ej
        rw [List.getElem?_set_self (by omega)] at hy
        cases hy
        exact hu
      · rw [List.getElem?_set_ne (Ne.symm nj)] at hy
        exact ⟨y, hy, fun _ hu => hu⟩
    · rw [if_neg he] at h
      obtain ⟨i1, i2⟩ := xwr_in (as := as) (ex := ex) h
      refine ⟨i1, fun j y hy => ?_⟩
      obtain ⟨y0, a1, a2, a3⟩ := i2 j y hy
      exact ⟨fun ej u hu => a3 (by rw [ej, hn]; omega) (by rw [ej, hn]; omega) u hu, fun _ => ⟨y0, a1, a2⟩⟩
  · rw [if_neg hb] at h
    cases h
/-- which answer a method has that returns so -/
def xrt : Instr → Option FieldType → Prop
  | .ireturn, t => t = some .int ∨ t = some .boolean
  | .lreturn, t => t = some .long
  | .areturn, t => ∃ C, t = some (.object C)
  | .return_, t => t = none
  | _, _ => False
def xo_in (as ex : List Nat) : Option XV → Option Value → Prop
  | none, v => v = none
  | some x, v => ∃ u, v = some u ∧ xv_in as ex x u
def xrk : Instr → Option Value → Prop
  | .ireturn, v => ∃ x : Int32, v = some (.int x)
  | .lreturn, v => ∃ x : Int64, v = some (.long x)
  | .areturn, v => v = some .null ∨ ∃ a : Nat, v = some (.ref a)
  | .return_, v => v = none
  | _, _ => False
section XT
variable (p : Program) (l : Launch) (e : Env) (R : Room) (s : State) (m : MethodId) (args : Array Value) (below : List Frame) (meth : Method) (c : Code) (Q : State → Prop) (cc : ByteArray) (nL : Nat) (D : va_G) (cl : List vw_C) (tA : Nat → ClassId) (A : Nat → Prop) (as0 ex : List Nat) (ret : Option FieldType)
def XAt (lv : XL) (st : List XV) (w : XW) (H : Heap) (locs : List Loc) (ls : Array Slot) (vs : List Value) (lw : List (Nat × Value)) (ws : va_W) : Prop :=
  xk_in (xad ws) ex lv lw ∧ xl_in (xad ws) ex st vs ∧ xw_in ex tA w ws ∧ va_P D cl ws H ∧ va_D A ws ∧ va_S A s.heap H locs ∧ lv_has ls nL lw ∧ ∃ t, xad ws = as0 ++ t
def XSat (S : XS) : Prop := ∀ (H : Heap) (locs : List Loc) (ls : Array Slot) (vs : List Value) (lw : List (Nat × Value)) (ws : va_W), XAt s nL D cl tA A as0 ex S.2.1 S.2.2.1 S.2.2.2.1 H locs ls vs lw ws → W p l e R s m args below meth c H locs S.2.2.2.2.1 S.2.2.2.2.2 Q (F0 m S.1 ls vs)
def XRet (r : Option XV × XW × Nat × Nat) : Prop := ∀ (pc : Nat) (i : Instr) (H : Heap) (locs : List Loc) (ls : Array Slot) (rv : Option Value) (ws : va_W), decode cc pc = .ok (i, 1) → xrt i ret → xrk i rv → xo_in (xad ws) ex r.1 rv → (xz ret = true → ∀ x : Int32, rv = some (.int x) → x = 0 ∨ x = 1) → xw_in ex tA r.2.1 ws → va_P D cl ws H → va_D A ws → va_S A s.heap H locs → (∃ t, xad ws = as0 ++ t) → W p l e R s m args below meth c H locs r.2.2.1 r.2.2.2 Q (F0 m pc ls rv.toList)
def XRs : XR → Prop
  | .inl S => XSat p l e R s m args below meth c Q nL D cl tA A as0 ex S
  | .inr r => XRet p l e R s m args below meth c Q cc D cl tA A as0 ex ret r
end XT
section XO
variable {p : Program} {l : Launch} {e : Env} {R : Room} {s : State} {m : MethodId} {args : Array Value} {below : List Frame} {meth : Method} {c : Code} {Q : State → Prop} {cc : ByteArray} {nL : Nat} {D : va_G} {cl : List vw_C} {tA : Nat → ClassId} {A : Nat → Prop} {as0 ex : List Nat} {ret : Option FieldType} {pc : Nat} {lv : XL} {st : List XV} {w : XW} {k n : Nat} {r : XR}
theorem xo_push {d : Nat} {v : XV} {val : Value} (hv : ∀ as : List Nat, xv_in as ex v val) (h : xh_push d v pc lv st w k n = some r) (hr : XRs p l e R s m args below meth c Q cc nL D cl tA A as0 ex ret r) (row : ∀ (H : Heap) (locs : List Loc) (ls : Array Slot) (vs : List Value), va_S A s.heap H locs → W p l e R s m args below meth c H locs k n Q (F0 m (pc + d) ls (val :: vs)) → W p l e R s m args below meth c H locs k n Q (F0 m pc ls vs)) : XSat p l e R s m args below meth c Q nL D cl tA A as0 ex (pc, lv, st, w, k, n) := by
  cases h
  intro H locs ls vs lw ws ⟨h1, h2, h3, h4, h5, h6, h7, h8⟩
  exact row H locs ls vs h6 (hr H locs ls (val :: vs) lw ws ⟨h1, ⟨val, vs, rfl, hv _, h2⟩, h3, h4, h5, h6, h7, h8⟩)
theorem xo_load {kd d j : Nat} (h : xh_load kd d j pc lv st w k n = some r) (hr : XRs p l e R s m args below meth c Q cc nL D cl tA A as0 ex ret r) (row : ∀ (v : Value) (H : Heap) (locs : List Loc) (ls : Array Slot) (vs : List Value), xvk kd v → ls[j]? = some (.val v) → W p l e R s m args below meth c H locs k n Q (F0 m (pc + d) ls (v :: vs)) → W p l e R s m args below meth c H locs k n Q (F0 m pc ls vs)) : XSat p l e R s m args below meth c Q nL D cl tA A as0 ex (pc, lv, st, w, k, n) := by
  unfold xh_load at h
  cases hx : xk_get lv j with
  | none => rw [hx] at h; cases h
  | some x =>
    rw [hx] at h
    dsimp only at h
    by_cases hk : xkd x = kd
    · rw [if_pos hk] at h
      cases h
      intro H locs ls vs lw ws ⟨h1, h2, h3, h4, h5, h6, h7, h8⟩
      obtain ⟨q, v, hq, hv⟩ := h1.get hx
      exact row v H locs ls vs (hk ▸ hv.vk) (lv_at h7 q hq) (hr H locs ls (v :: vs) lw ws ⟨h1, ⟨v, vs, rfl, hv, h2⟩, h3, h4, h5, h6, h7, h8⟩)
    · rw [if_neg hk] at h
      cases h
theorem xo_store {kd d j : Nat} (h : xh_store kd d j nL pc lv st w k n = some r) (hr : XRs p l e R s m args below meth c Q cc nL D cl tA A as0 ex ret r) (row : ∀ (v : Value) (H : Heap) (locs : List Loc) (ls : Array Slot) (vs : List Value) (lw : List (Nat × Value)), xvk kd v → lv_has ls nL lw → j < nL → (∀ ls' : Array Slot, lv_has ls' nL ((j, v) :: lw.filter (fun q => !(q.1 == j) && !(q.1 + 1 == j && q.2.category == 2))) → W p l e R s m args below meth c H locs k n Q (F0 m (pc + d) ls' vs)) → W p l e R s m args below meth c H locs k n Q (F0 m pc ls (v :: vs))) : XSat p l e R s m args below meth c Q nL D cl tA A as0 ex (pc, lv, st, w, k, n) := by
  cases st with
  | nil => cases h
  | cons x st =>
    unfold xh_store at h
    dsimp only at h
    by_cases hk : xkd x = kd ∧ j < nL
    · rw [if_pos hk] at h
      cases h
      intro H locs ls vs lw ws ⟨h1, h2, h3, h4, h5, h6, h7, h8⟩
      obtain ⟨v, vs', rfl, hv, h2⟩ := h2
      exact row v H locs ls vs' lw (hk.1 ▸ hv.vk) h7 hk.2 (fun ls' hl' => hr H locs ls' vs' _ ws ⟨h1.set1 hv, h2, h3, h4, h5, h6, hl', h8⟩)
    · rw [if_neg hk] at h
      cases h
theorem xo_store2 {d j : Nat} (h : xh_store2 d j nL pc lv st w k n = some r) (hr : XRs p l e R s m args below meth c Q cc nL D cl tA A as0 ex ret r) (row : ∀ (v : Value) (H : Heap) (locs : List Loc) (ls : Array Slot) (vs : List Value) (lw : List (Nat × Value)), xvk 1 v → lv_has ls nL lw → j + 1 < nL → (∀ ls' : Array Slot, lv_has ls' nL ((j, v) :: lw.filter (fun q => !(q.1 == j) && (!(q.1 == j + 1) && !(q.1 + 1 == j && q.2.category == 2)))) → W p l e R s m args below meth c H locs k n Q (F0 m (pc + d) ls' vs)) → W p l e R s m args below meth c H locs k n Q (F0 m pc ls (v :: vs))) : XSat p l e R s m args below meth c Q nL D cl tA A as0 ex (pc, lv, st, w, k, n) := by
  cases st with
  | nil => cases h
  | cons x st =>
    unfold xh_store2 at h
    dsimp only at h
    by_cases hk : xkd x = 1 ∧ j + 1 < nL
    · rw [if_pos hk] at h
      cases h
      intro H locs ls vs lw ws ⟨h1, h2, h3, h4, h5, h6, h7, h8⟩
      obtain ⟨v, vs', rfl, hv, h2⟩ := h2
      exact row v H locs ls vs' lw (hk.1 ▸ hv.vk) h7 hk.2 (fun ls' hl' => hr H locs ls' vs' _ ws ⟨h1.set2 hv, h2, h3, h4, h5, h6, hl', h8⟩)
    · rw [if_neg hk] at h
      cases h
theorem xo_iinc {j : Nat} {z : Int} {g : Int} (hx : p.tables.exec = Jvm.exec) (hb : c.code = cc) (hd : decode cc pc = .ok (.iinc j g, 3)) (hz : (Int32.ofInt g).toInt = z) (h : xh_iinc j nL z pc lv st w k n = some r) (hr : XRs p l e R s m args below meth c Q cc nL D cl tA A as0 ex ret r) : XSat p l e R s m args below meth c Q nL D cl tA A as0 ex (pc, lv, st, w, k, n) := by
  unfold xh_iinc at h
  cases hk : xk_get lv j with
  | none => rw [hk] at h; cases h
  | some x =>
    rw [hk] at h
    match x, hk, h with
    | .inr _, _, h => cases h
    | .inl q, hk, h =>
      dsimp only at h
      by_cases hj : j < nL
      · rw [if_pos hj] at h
        cases h
        intro H locs ls vs lw ws ⟨h1, h2, h3, h4, h5, h6, h7, h8⟩
        obtain ⟨i, v, hi, x, rfl, b1, b2⟩ := h1.get hk
        refine lv_iinc (v := x + Int32.ofInt g) hx hb hd h7 hi rfl hj rfl (fun ls' hl' => ?_)
        have hb3 := xadd_in q (z, z) x (Int32.ofInt g) b1 b2 (by rw [hz]; exact Int.le_refl _) (by rw [hz]; exact Int.le_refl _)
        exact hr H locs ls' vs _ ws ⟨h1.set1 ⟨x + Int32.ofInt g, rfl, hb3⟩, h2, h3, h4, h5, h6, hl', h8⟩
      · rw [if_neg hj] at h
        cases h
theorem xo_bin {f : Int × Int → Int × Int → Int × Int} {g : Int32 → Int32 → Int32} (hf : xin2 f g) (h : xh_bin f pc lv st w k n = some r) (hr : XRs p l e R s m args below meth c Q cc nL D cl tA A as0 ex ret r) (row : ∀ (x y : Int32) (H : Heap) (locs : List Loc) (ls : Array Slot) (vs : List Value), W p l e R s m args below meth c H locs k n Q (F0 m (pc + 1) ls (.int (g x y) :: vs)) → W p l e R s m args below meth c H locs k n Q (F0 m pc ls (.int y :: .int x :: vs))) : XSat p l e R s m args below meth c Q nL D cl tA A as0 ex (pc, lv, st, w, k, n) := by
  match st, h with
  | .inl q :: .inl p0 :: st, h =>
    cases h
    intro H locs ls vs lw ws ⟨h1, h2, h3, h4, h5, h6, h7, h8⟩
    obtain ⟨_, _, rfl, ⟨y, rfl, y1, y2⟩, _, vs', rfl, ⟨x, rfl, x1, x2⟩, h2⟩ := h2
    exact row x y H locs ls vs' (hr H locs ls _ lw ws ⟨h1, ⟨_, vs', rfl, ⟨g x y, rfl, hf p0 q x y x1 x2 y1 y2⟩, h2⟩, h3, h4, h5, h6, h7, h8⟩)
theorem xo_div {f : Int × Int → Int × Int → Int × Int} {g : Int32 → Int32 → Int32} (hf : xin2 f g) (h : xh_div f pc lv st w k n = some r) (hr : XRs p l e R s m args below meth c Q cc nL D cl tA A as0 ex ret r) (row : ∀ (x y : Int32) (H : Heap) (locs : List Loc) (ls : Array Slot) (vs : List Value), ¬ y = 0 → W p l e R s m args below meth c H locs k n Q (F0 m (pc + 1) ls (.int (g x y) :: vs)) → W p l e R s m args below meth c H locs k n Q (F0 m pc ls (.int y :: .int x :: vs))) : XSat p l e R s m args below meth c Q nL D cl tA A as0 ex (pc, lv, st, w, k, n) := by
  match st, h with
  | .inl q :: .inl p0 :: st, h =>
    unfold xh_div at h
    dsimp only at h
    by_cases hq : 0 < q.1 ∨ q.2 < 0
    · rw [if_pos hq] at h
      cases h
      intro H locs ls vs lw ws ⟨h1, h2, h3, h4, h5, h6, h7, h8⟩
      obtain ⟨_, _, rfl, ⟨y, rfl, y1, y2⟩, _, vs', rfl, ⟨x, rfl, x1, x2⟩, h2⟩ := h2
      have hy : ¬ y = 0 := fun e0 => by
        rw [e0] at y1 y2
        have z : (0 : Int32).toInt = 0 := rfl
        omega
      exact row x y H locs ls vs' hy (hr H locs ls _ lw ws ⟨h1, ⟨_, vs', rfl, ⟨g x y, rfl, hf p0 q x y x1 x2 y1 y2⟩, h2⟩, h3, h4, h5, h6, h7, h8⟩)
    · rw [if_neg hq] at h
      cases h
theorem xo_un {g : Int32 → Int32} (h : xh_un (xe1 g) pc lv st w k n = some r) (hr : XRs p l e R s m args below meth c Q cc nL D cl tA A as0 ex ret r) (row : ∀ (x : Int32) (H : Heap) (locs : List Loc) (ls : Array Slot) (vs : List Value), W p l e R s m args below meth c H locs k n Q (F0 m (pc + 1) ls (.int (g x) :: vs)) → W p l e R s m args below meth c H locs k n Q (F0 m pc ls (.int x :: vs))) : XSat p l e R s m args below meth c Q nL D cl tA A as0 ex (pc, lv, st, w, k, n) := by
  match st, h with
  | .inl p0 :: st, h =>
    cases h
    intro H locs ls vs lw ws ⟨h1, h2, h3, h4, h5, h6, h7, h8⟩
    obtain ⟨_, vs', rfl, ⟨x, rfl, x1, x2⟩, h2⟩ := h2
    exact row x H locs ls vs' (hr H locs ls _ lw ws ⟨h1, ⟨_, vs', rfl, ⟨g x, rfl, xe1_in g p0 x x1 x2⟩, h2⟩, h3, h4, h5, h6, h7, h8⟩)
theorem xo_lneg (h : xh_lneg pc lv st w k n = some r) (hr : XRs p l e R s m args below meth c Q cc nL D cl tA A as0 ex ret r) (row : ∀ (x : Int64) (H : Heap) (locs : List Loc) (ls : Array Slot) (vs : List Value), W p l e R s m args below meth c H locs k n Q (F0 m (pc + 1) ls (.long (-x) :: vs)) → W p l e R s m args below meth c H locs k n Q (F0 m pc ls (.long x :: vs))) : XSat p l e R s m args below meth c Q nL D cl tA A as0 ex (pc, lv, st, w, k, n) := by
  match st, h with
  | .inr (.inl (some a)) :: st, h =>
    cases h
    intro H locs ls vs lw ws ⟨h1, h2, h3, h4, h5, h6, h7, h8⟩
    obtain ⟨_, vs', rfl, ⟨x, rfl, hx⟩, h2⟩ := h2
    refine row x H locs ls vs' (hr H locs ls _ lw ws ⟨h1, ⟨_, vs', rfl, ⟨-x, rfl, fun z hz => ?_⟩, h2⟩, h3, h4, h5, h6, h7, h8⟩)
    rw [x_oneL hx] at hz
    exact Option.some.inj hz
  | .inr (.inl none) :: st, h =>
    cases h
    intro H locs ls vs lw ws ⟨h1, h2, h3, h4, h5, h6, h7, h8⟩
    obtain ⟨_, vs', rfl, ⟨x, rfl, hx⟩, h2⟩ := h2
    exact row x H locs ls vs' (hr H locs ls _ lw ws ⟨h1, ⟨_, vs', rfl, ⟨-x, rfl, fun z hz => by cases hz⟩, h2⟩, h3, h4, h5, h6, h7, h8⟩)
theorem xo_lbin {g : Int64 → Int64 → Int64} (h : xh_lbin (xl2 g) pc lv st w k n = some r) (hr : XRs p l e R s m args below meth c Q cc nL D cl tA A as0 ex ret r) (row : ∀ (x y : Int64) (H : Heap) (locs : List Loc) (ls : Array Slot) (vs : List Value), W p l e R s m args below meth c H locs k n Q (F0 m (pc + 1) ls (.long (g x y) :: vs)) → W p l e R s m args below meth c H locs k n Q (F0 m pc ls (.long y :: .long x :: vs))) : XSat p l e R s m args below meth c Q nL D cl tA A as0 ex (pc, lv, st, w, k, n) := by
  match st, h with
  | .inr (.inl q) :: .inr (.inl p0) :: st, h =>
    cases h
    intro H locs ls vs lw ws ⟨h1, h2, h3, h4, h5, h6, h7, h8⟩
    obtain ⟨_, _, rfl, ⟨y, rfl, hy⟩, _, vs', rfl, ⟨x, rfl, hx⟩, h2⟩ := h2
    exact row x y H locs ls vs' (hr H locs ls _ lw ws ⟨h1, ⟨_, vs', rfl, ⟨g x y, rfl, xl2_in g hx hy⟩, h2⟩, h3, h4, h5, h6, h7, h8⟩)
theorem xo_lsh {g : Int64 → Int32 → Int64} (h0 : ∀ y, g 0 y = 0) (h : xh_lsh (xls g) pc lv st w k n = some r) (hr : XRs p l e R s m args below meth c Q cc nL D cl tA A as0 ex ret r) (row : ∀ (x : Int64) (y : Int32) (H : Heap) (locs : List Loc) (ls : Array Slot) (vs : List Value), W p l e R s m args below meth c H locs k n Q (F0 m (pc + 1) ls (.long (g x y) :: vs)) → W p l e R s m args below meth c H locs k n Q (F0 m pc ls (.int y :: .long x :: vs))) : XSat p l e R s m args below meth c Q nL D cl tA A as0 ex (pc, lv, st, w, k, n) := by
  match st, h with
  | .inl q :: .inr (.inl p0) :: st, h =>
    cases h
    intro H locs ls vs lw ws ⟨h1, h2, h3, h4, h5, h6, h7, h8⟩
    obtain ⟨_, _, rfl, ⟨y, rfl, y1, y2⟩, _, vs', rfl, ⟨x, rfl, hx⟩, h2⟩ := h2
    exact row x y H locs ls vs' (hr H locs ls _ lw ws ⟨h1, ⟨_, vs', rfl, ⟨g x y, rfl, xls_in g h0 hx y1 y2⟩, h2⟩, h3, h4, h5, h6, h7, h8⟩)
theorem xo_i2l (h : xh_i2l pc lv st w k n = some r) (hr : XRs p l e R s m args below meth c Q cc nL D cl tA A as0 ex ret r) (row : ∀ (x : Int32) (H : Heap) (locs : List Loc) (ls : Array Slot) (vs : List Value), W p l e R s m args below meth c H locs k n Q (F0 m (pc + 1) ls (.long x.toInt64 :: vs)) → W p l e R s m args below meth c H locs k n Q (F0 m pc ls (.int x :: vs))) : XSat p l e R s m args below meth c Q nL D cl tA A as0 ex (pc, lv, st, w, k, n) := by
  match st, h with
  | .inl q :: st, h =>
    cases h
    intro H locs ls vs lw ws ⟨h1, h2, h3, h4, h5, h6, h7, h8⟩
    obtain ⟨_, vs', rfl, ⟨x, rfl, x1, x2⟩, h2⟩ := h2
    refine row x H locs ls vs' (hr H locs ls _ lw ws ⟨h1, ⟨_, vs', rfl, ⟨x.toInt64, rfl, fun z hz => ?_⟩, h2⟩, h3, h4, h5, h6, h7, h8⟩)
    rw [Int32.toInt_toInt64]
    by_cases he : q.1 = q.2
    · rw [if_pos he] at hz
      cases hz
      omega
    · rw [if_neg he] at hz
      cases hz
theorem xo_l2i (h : xh_l2i pc lv st w k n = some r) (hr : XRs p l e R s m args below meth c Q cc nL D cl tA A as0 ex ret r) (row : ∀ (x : Int64) (H : Heap) (locs : List Loc) (ls : Array Slot) (vs : List Value), W p l e R s m args below meth c H locs k n Q (F0 m (pc + 1) ls (.int x.toInt32 :: vs)) → W p l e R s m args below meth c H locs k n Q (F0 m pc ls (.long x :: vs))) : XSat p l e R s m args below meth c Q nL D cl tA A as0 ex (pc, lv, st, w, k, n) := by
  match st, h with
  | .inr (.inl (some a)) :: st, h =>
    cases h
    intro H locs ls vs lw ws ⟨h1, h2, h3, h4, h5, h6, h7, h8⟩
    obtain ⟨_, vs', rfl, ⟨x, rfl, hx⟩, h2⟩ := h2
    refine row x H locs ls vs' (hr H locs ls _ lw ws ⟨h1, ⟨_, vs', rfl, ⟨x.toInt32, rfl, ?_⟩, h2⟩, h3, h4, h5, h6, h7, h8⟩)
    rw [x_oneL hx]
    exact ⟨Int.le_refl _, Int.le_refl _⟩
  | .inr (.inl none) :: st, h =>
    cases h
    intro H locs ls vs lw ws ⟨h1, h2, h3, h4, h5, h6, h7, h8⟩
    obtain ⟨_, vs', rfl, ⟨x, rfl, hx⟩, h2⟩ := h2
    exact row x H locs ls vs' (hr H locs ls _ lw ws ⟨h1, ⟨_, vs', rfl, ⟨x.toInt32, rfl, x_rng _⟩, h2⟩, h3, h4, h5, h6, h7, h8⟩)
theorem x_cmpr (x y : Int64) : (lg_cmp x y).toInt = if x.toInt < y.toInt then -1 else if x.toInt = y.toInt then 0 else 1 := by
  unfold lg_cmp
  simp only [gt_iff_lt, Int64.lt_iff_toInt_lt, ← Int64.toInt_inj]
  repeat' split
  all_goals first | omega | rfl
theorem xo_lcmp (h : xh_lcmp pc lv st w k n = some r) (hr : XRs p l e R s m args below meth c Q cc nL D cl tA A as0 ex ret r) (row : ∀ (x y : Int64) (H : Heap) (locs : List Loc) (ls : Array Slot) (vs : List Value), W p l e R s m args below meth c H locs k n Q (F0 m (pc + 1) ls (.int (lg_cmp x y) :: vs)) → W p l e R s m args below meth c H locs k n Q (F0 m pc ls (.long y :: .long x :: vs))) : XSat p l e R s m args below meth c Q nL D cl tA A as0 ex (pc, lv, st, w, k, n) := by
  have any : ∀ (a b : Option Int) (st' : List XV), st = .inr (.inl b) :: .inr (.inl a) :: st' → r = .inl (pc + 1, lv, .inl (-1, 1) :: st', w, k, n) → XSat p l e R s m args below meth c Q nL D cl tA A as0 ex (pc, lv, st, w, k, n) := by
    intro a b st' e1 e2
    subst e1; subst e2
    intro H locs ls vs lw ws ⟨h1, h2, h3, h4, h5, h6, h7, h8⟩
    obtain ⟨_, _, rfl, ⟨y, rfl, hy⟩, _, vs', rfl, ⟨x, rfl, hx⟩, h2⟩ := h2
    refine row x y H locs ls vs' (hr H locs ls _ lw ws ⟨h1, ⟨_, vs', rfl, ⟨lg_cmp x y, rfl, ?_⟩, h2⟩, h3, h4, h5, h6, h7, h8⟩)
    rw [x_cmpr]
    repeat' split
    all_goals (constructor <;> decide)
  match st, h with
  | .inr (.inl (some b)) :: .inr (.inl (some a)) :: st, h =>
    cases h
    intro H locs ls vs lw ws ⟨h1, h2, h3, h4, h5, h6, h7, h8⟩
    obtain ⟨_, _, rfl, ⟨y, rfl, hy⟩, _, vs', rfl, ⟨x, rfl, hx⟩, h2⟩ := h2
    refine row x y H locs ls vs' (hr H locs ls _ lw ws ⟨h1, ⟨_, vs', rfl, ⟨lg_cmp x y, rfl, ?_⟩, h2⟩, h3, h4, h5, h6, h7, h8⟩)
    rw [x_cmpr, hx a rfl, hy b rfl]
    exact ⟨Int.le_refl _, Int.le_refl _⟩
  | .inr (.inl none) :: .inr (.inl a) :: st, h => exact any a none st rfl (Option.some.inj h).symm
  | .inr (.inl (some b)) :: .inr (.inl none) :: st, h => exact any none (some b) st rfl (Option.some.inj h).symm
theorem xo_dup (h : xh_dup pc lv st w k n = some r) (hr : XRs p l e R s m args below meth c Q cc nL D cl tA A as0 ex ret r) (row : ∀ (v : Value) (H : Heap) (locs : List Loc) (ls : Array Slot) (vs : List Value), v.category = 1 → W p l e R s m args below meth c H locs k n Q (F0 m (pc + 1) ls (v :: v :: vs)) → W p l e R s m args below meth c H locs k n Q (F0 m pc ls (v :: vs))) : XSat p l e R s m args below meth c Q nL D cl tA A as0 ex (pc, lv, st, w, k, n) := by
  match st, h with
  | x :: st, h =>
    unfold xh_dup at h
    dsimp only at h
    by_cases hc : xcat x = 1
    · rw [if_pos hc] at h
      cases h
      intro H locs ls vs lw ws ⟨h1, h2, h3, h4, h5, h6, h7, h8⟩
      obtain ⟨v, vs', rfl, hv, h2⟩ := h2
      exact row v H locs ls vs' (hv.cat.trans hc) (hr H locs ls _ lw ws ⟨h1, ⟨v, _, rfl, hv, v, vs', rfl, hv, h2⟩, h3, h4, h5, h6, h7, h8⟩)
    · rw [if_neg hc] at h
      cases h
theorem x_cat1 {x : XV} (h : ¬ xcat x = 2) : xcat x = 1 := by
  match x, h with
  | .inl _, _ => rfl
  | .inr (.inl _), h => exact absurd rfl h
  | .inr (.inr _), _ => rfl
theorem xo_dup2 (hx : p.tables.exec = Jvm.exec) (hb : c.code = cc) (hd : decode cc pc = .ok (.dup2, 1)) (h : xh_dup2 pc lv st w k n = some r) (hr : XRs p l e R s m args below meth c Q cc nL D cl tA A as0 ex ret r) : XSat p l e R s m args below meth c Q nL D cl tA A as0 ex (pc, lv, st, w, k, n) := by
  match st, h with
  | x :: st, h =>
    unfold xh_dup2 at h
    dsimp only at h
    by_cases hc : xcat x = 2
    · rw [if_pos hc] at h
      cases h
      intro H locs ls vs lw ws ⟨h1, h2, h3, h4, h5, h6, h7, h8⟩
      obtain ⟨v, vs', rfl, hv, h2⟩ := h2
      exact lv_dup2_2 hx hb hd (hv.cat.trans hc) (hr H locs ls _ lw ws ⟨h1, ⟨v, _, rfl, hv, v, vs', rfl, hv, h2⟩, h3, h4, h5, h6, h7, h8⟩)
    · rw [if_neg hc] at h
      match st, h with
      | y :: st, h =>
        dsimp only at h
        by_cases hy : xcat y = 1
        · rw [if_pos hy] at h
          cases h
          intro H locs ls vs lw ws ⟨h1, h2, h3, h4, h5, h6, h7, h8⟩
          obtain ⟨v, _, rfl, hv, u, vs', rfl, hu, h2⟩ := h2
          exact lv_dup2_11 hx hb hd (hv.cat.trans (x_cat1 hc)) (hu.cat.trans hy) (hr H locs ls _ lw ws ⟨h1, ⟨v, _, rfl, hv, u, _, rfl, hu, v, _, rfl, hv, u, vs', rfl, hu, h2⟩, h3, h4, h5, h6, h7, h8⟩)
        · rw [if_neg hy] at h
          cases h
/-- a branch that is decided -/
theorem xo_br {P : Prop} {o : Option Bool} {tgt : Nat} {st' : List XV} {H : Heap} {locs : List Loc} {ls : Array Slot} {vs : List Value} {lw : List (Nat × Value)} {ws : va_W} (ho : ∀ b, o = some b → (P ↔ b = true)) (h : xh_br o tgt pc lv st' w k n = some r) (hr : XRs p l e R s m args below meth c Q cc nL D cl tA A as0 ex ret r) (hat : XAt s nL D cl tA A as0 ex lv st' w H locs ls vs lw ws) : (P → W p l e R s m args below meth c H locs k n Q (F0 m tgt ls vs)) ∧ (¬ P → W p l e R s m args below meth c H locs k n Q (F0 m (pc + 3) ls vs)) := by
  match o, h with
  | some true, h =>
    cases h
    exact ⟨fun _ => hr H locs ls vs lw ws hat, fun hn => absurd ((ho true rfl).mpr rfl) hn⟩
  | some false, h =>
    cases h
    exact ⟨fun hp => (by cases (ho false rfl).mp hp), fun _ => hr H locs ls vs lw ws hat⟩
theorem xo_if {q : ClassFile.Cond} {off : Int} {tgt : Nat} (hx : p.tables.exec = Jvm.exec) (hb : c.code = cc) (hd : decode cc pc = .ok (.ifCond q off, 3)) (ht : (pc : Int) + off = (tgt : Int)) (h : xh_if q tgt pc lv st w k n = some r) (hr : XRs p l e R s m args below meth c Q cc nL D cl tA A as0 ex ret r) : XSat p l e R s m args below meth c Q nL D cl tA A as0 ex (pc, lv, st, w, k, n) := by
  match st, h with
  | .inl p0 :: st, h =>
    intro H locs ls vs lw ws ⟨h1, h2, h3, h4, h5, h6, h7, h8⟩
    obtain ⟨_, vs', rfl, ⟨x, rfl, x1, x2⟩, h2⟩ := h2
    have h : xh_br (xcmp q p0 (0, 0)) tgt pc lv st w k n = some r := h
    have hat : XAt s nL D cl tA A as0 ex lv st w H locs ls vs' lw ws := ⟨h1, h2, h3, h4, h5, h6, h7, h8⟩
    have z1 : ((0 : Int), (0 : Int)).1 ≤ (0 : Int32).toInt := Int.le_refl _
    have z2 : (0 : Int32).toInt ≤ ((0 : Int), (0 : Int)).2 := Int.le_refl _
    cases q with
    | eq =>
      obtain ⟨a, b⟩ := xo_br (P := x = 0) (fun b hb' => xeq_in x1 x2 z1 z2 hb') h hr hat
      exact lv_if_eq hx hb hd ht a b
    | ne =>
      obtain ⟨a, b⟩ := xo_br (P := ¬ x = 0) (fun b hb' => xno_in hb' (fun _ hb' => xeq_in x1 x2 z1 z2 hb')) h hr hat
      exact lv_if_ne hx hb hd ht a (fun hh => b (fun hn => hn hh))
    | lt =>
      obtain ⟨a, b⟩ := xo_br (P := x < 0) (fun b hb' => xlt_in x1 x2 z1 z2 hb') h hr hat
      exact lv_if_lt hx hb hd ht a b
    | ge =>
      obtain ⟨a, b⟩ := xo_br (P := ¬ x < 0) (fun b hb' => xno_in hb' (fun _ hb' => xlt_in x1 x2 z1 z2 hb')) h hr hat
      exact lv_if_ge hx hb hd ht (fun hh => a (Int32.not_lt.mpr hh)) (fun hh => b (fun h2 => hh (Int32.not_lt.mp h2)))
    | gt =>
      obtain ⟨a, b⟩ := xo_br (P := 0 < x) (fun b hb' => xlt_in z1 z2 x1 x2 hb') h hr hat
      exact lv_if_gt hx hb hd ht a b
    | le =>
      obtain ⟨a, b⟩ := xo_br (P := ¬ 0 < x) (fun b hb' => xno_in hb' (fun _ hb' => xlt_in z1 z2 x1 x2 hb')) h hr hat
      exact lv_if_le hx hb hd ht (fun hh => a (Int32.not_lt.mpr hh)) (fun hh => b (fun h2 => hh (Int32.not_lt.mp h2)))
theorem xo_icmp {q : ClassFile.Cond} {off : Int} {tgt : Nat} (hx : p.tables.exec = Jvm.exec) (hb : c.code = cc) (hd : decode cc pc = .ok (.if_icmp q off, 3)) (ht : (pc : Int) + off = (tgt : Int)) (h : xh_icmp q tgt pc lv st w k n = some r) (hr : XRs p l e R s m args below meth c Q cc nL D cl tA A as0 ex ret r) : XSat p l e R s m args below meth c Q nL D cl tA A as0 ex (pc, lv, st, w, k, n) := by
  match st, h with
  | .inl q0 :: .inl p0 :: st, h =>
    intro H locs ls vs lw ws ⟨h1, h2, h3, h4, h5, h6, h7, h8⟩
    obtain ⟨_, _, rfl, ⟨y, rfl, z1, z2⟩, _, vs', rfl, ⟨x, rfl, x1, x2⟩, h2⟩ := h2
    have h : xh_br (xcmp q p0 q0) tgt pc lv st w k n = some r := h
    have hat : XAt s nL D cl tA A as0 ex lv st w H locs ls vs' lw ws := ⟨h1, h2, h3, h4, h5, h6, h7, h8⟩
    cases q with
    | eq =>
      obtain ⟨a, b⟩ := xo_br (P := x = y) (fun b hb' => xeq_in x1 x2 z1 z2 hb') h hr hat
      exact lv_icmp_eq hx hb hd ht a b
    | ne =>
      obtain ⟨a, b⟩ := xo_br (P := ¬ x = y) (fun b hb' => xno_in hb' (fun _ hb' => xeq_in x1 x2 z1 z2 hb')) h hr hat
      exact lv_icmp_ne hx hb hd ht a (fun hh => b (fun hn => hn hh))
    | lt =>
      obtain ⟨a, b⟩ := xo_br (P := x < y) (fun b hb' => xlt_in x1 x2 z1 z2 hb') h hr hat
      exact lv_icmp_lt hx hb hd ht a b
    | ge =>
      obtain ⟨a, b⟩ := xo_br (P := ¬ x < y) (fun b hb' => xno_in hb' (fun _ hb' => xlt_in x1 x2 z1 z2 hb')) h hr hat
      exact lv_icmp_ge hx hb hd ht (fun hh => a (Int32.not_lt.mpr hh)) (fun hh => b (fun h2 => hh (Int32.not_lt.mp h2)))
    | gt =>
      obtain ⟨a, b⟩ := xo_br (P := y < x) (fun b hb' => xlt_in z1 z2 x1 x2 hb') h hr hat
      exact lv_icmp_gt hx hb hd ht a b
    | le =>
      obtain ⟨a, b⟩ := xo_br (P := ¬ y < x) (fun b hb' => xno_in hb' (fun _ hb' => xlt_in z1 z2 x1 x2 hb')) h hr hat
      exact lv_icmp_le hx hb hd ht (fun hh => a (Int32.not_lt.mpr hh)) (fun hh => b (fun h2 => hh (Int32.not_lt.mp h2)))
theorem xo_ifnull {off : Int} {tgt : Nat} (hx : p.tables.exec = Jvm.exec) (hb : c.code = cc) (hd : decode cc pc = .ok (.ifnull off, 3)) (ht : (pc : Int) + off = (tgt : Int)) (h : xh_null false tgt pc lv st w k n = some r) (hr : XRs p l e R s m args below meth c Q cc nL D cl tA A as0 ex ret r) : XSat p l e R s m args below meth c Q nL D cl tA A as0 ex (pc, lv, st, w, k, n) := by
  match st, h with
  | .inr (.inr q) :: st, h =>
    intro H locs ls vs lw ws ⟨h1, h2, h3, h4, h5, h6, h7, h8⟩
    obtain ⟨v, vs', rfl, hv, h2⟩ := h2
    have hat : XAt s nL D cl tA A as0 ex lv st w H locs ls vs' lw ws := ⟨h1, h2, h3, h4, h5, h6, h7, h8⟩
    unfold xh_null at h
    dsimp only at h
    rcases hv with ⟨h0, rfl⟩ | ⟨a, rfl, ha⟩
    · rw [if_neg (by rw [h0]; decide)] at h
      cases h
      exact lv_ifnullN hx hb hd ht (hr H locs ls vs' lw ws hat)
    · have hq : (q.1 == 0) = false := by
        rcases ha with ⟨e1, _⟩ | ⟨e1, _⟩ <;> rw [e1] <;> rfl
      rw [if_pos (by rw [hq]; decide)] at h
      cases h
      exact lv_ifnull hx hb hd (hr H locs ls vs' lw ws hat)
theorem xo_ifnonnull {off : Int} {tgt : Nat} (hx : p.tables.exec = Jvm.exec) (hb : c.code = cc) (hd : decode cc pc = .ok (.ifnonnull off, 3)) (ht : (pc : Int) + off = (tgt : Int)) (h : xh_null true tgt pc lv st w k n = some r) (hr : XRs p l e R s m args below meth c Q cc nL D cl tA A as0 ex ret r) : XSat p l e R s m args below meth c Q nL D cl tA A as0 ex (pc, lv, st, w, k, n) := by
  match st, h with
  | .inr (.inr q) :: st, h =>
    intro H locs ls vs lw ws ⟨h1, h2, h3, h4, h5, h6, h7, h8⟩
    obtain ⟨v, vs', rfl, hv, h2⟩ := h2
    have hat : XAt s nL D cl tA A as0 ex lv st w H locs ls vs' lw ws := ⟨h1, h2, h3, h4, h5, h6, h7, h8⟩
    unfold xh_null at h
    dsimp only at h
    rcases hv with ⟨h0, rfl⟩ | ⟨a, rfl, ha⟩
    · rw [if_pos (by rw [h0]; decide)] at h
      cases h
      exact lv_ifnonnullN hx hb hd (hr H locs ls vs' lw ws hat)
    · have hq : (q.1 == 0) = false := by
        rcases ha with ⟨e1, _⟩ | ⟨e1, _⟩ <;> rw [e1] <;> rfl
      rw [if_neg (by rw [hq]; decide)] at h
      cases h
      exact lv_ifnonnull hx hb hd ht (hr H locs ls vs' lw ws hat)
theorem xo_table {dflt lo hi : Int} {offs : Array Int} {len : Nat} (hx : p.tables.exec = Jvm.exec) (hb : c.code = cc) (hd : decode cc pc = .ok (.tableswitch dflt lo hi offs, len)) (h : xh_table dflt lo hi offs pc lv st w k n = some r) (hr : XRs p l e R s m args below meth c Q cc nL D cl tA A as0 ex ret r) : XSat p l e R s m args below meth c Q nL D cl tA A as0 ex (pc, lv, st, w, k, n) := by
  match st, h with
  | .inl q :: st, h =>
    intro H locs ls vs lw ws ⟨h1, h2, h3, h4, h5, h6, h7, h8⟩
    obtain ⟨_, vs', rfl, ⟨x, rfl, x1, x2⟩, h2⟩ := h2
    have hat : XAt s nL D cl tA A as0 ex lv st w H locs ls vs' lw ws := ⟨h1, h2, h3, h4, h5, h6, h7, h8⟩
    unfold xh_table at h
    dsimp only at h
    by_cases ho : q.2 < lo ∨ hi < q.1
    · rw [if_pos ho] at h
      by_cases hp : 0 ≤ (pc : Int) + dflt
      · rw [if_pos hp] at h
        cases h
        exact lv_tableOut hx hb hd (by omega) (Int.toNat_of_nonneg hp).symm (hr H locs ls vs' lw ws hat)
      · rw [if_neg hp] at h
        cases h
    · rw [if_neg ho] at h
      by_cases hq : q.1 = q.2
      · rw [if_pos hq] at h
        have e0 : x.toInt = q.1 := by omega
        cases hf : offs[(q.1 - lo).toNat]? with
        | none => rw [hf] at h; cases h
        | some off =>
          rw [hf] at h
          dsimp only at h
          by_cases hp : 0 ≤ (pc : Int) + off
          · rw [if_pos hp] at h
            cases h
            exact lv_tableIn hx hb hd (by omega) (by omega) (by rw [e0]; exact hf) (Int.toNat_of_nonneg hp).symm (hr H locs ls vs' lw ws hat)
          · rw [if_neg hp] at h
            cases h
      · rw [if_neg hq] at h
        cases h
end XO
end
section
/-! ===== rows, objects, calls ===== -/
theorem xv_in.nil {as ex : List Nat} : ∀ {x : XV} {v : Value}, xv_in [] [] x v → xv_in as ex x v
  | .inl _, _, h => h
  | .inr (.inl _), _, h => h
  | .inr (.inr q), v, h => by
    rcases h with h | ⟨a, _, ⟨_, h2⟩ | ⟨_, h2⟩⟩
    · exact Or.inl h
    · simp at h2
    · simp at h2
theorem x_ofNat {k : Nat} (h : k < 2147483648) : (Int32.ofNat k).toInt = (k : Int) := nI_toInt (n := k) h
/-- what the tables say of the kinds of arrays -/
def xty (tys : List (ClassId × FieldType)) (tA : Nat → ClassId) : Prop := tys[0]? = some (tA 0, .int) ∧ tys[1]? = some (tA 1, .long) ∧ tys[2]? = some (tA 2, .boolean) ∧ ∀ t, 3 ≤ t → t < 7 → ∃ C, tys[t]? = some (tA t, .object C)
/-- a row that lies outside of the world -/
def xext (A : Nat → Prop) (ex : List Nat) (exc : List (List XV)) (U : State) : Prop := ∀ (j a : Nat) (es : List XV), ex[j]? = some a → exc[j]? = some es → ∃ f, va_T .int a es.length f A U U.heap ∧ ∀ (i : Nat) (x : XV), es[i]? = some x → xv_in [] [] x (f i)
section XO
variable {p : Program} {l : Launch} {e : Env} {R : Room} {s : State} {m : MethodId} {args : Array Value} {below : List Frame} {meth : Method} {c : Code} {Q : State → Prop} {cc : ByteArray} {nL : Nat} {D : va_G} {cl : List vw_C} {tys : List (ClassId × FieldType)} {tA : Nat → ClassId} {A : Nat → Prop} {as0 ex : List Nat} {exc : List (List XV)} {ret : Option FieldType} {pc : Nat} {lv : XL} {st : List XV} {w : XW} {k n : Nat} {r : XR}
theorem xarr_in {q : Nat × Nat} {t : Nat} {es : List XV} {v : Value} {ws : va_W} (hw : xw_in ex tA w ws) (h : xarr w exc q = some (t, es)) (hv : xv_in (xad ws) ex (.inr (.inr q)) v) : ∃ a : Nat, v = .ref a ∧ ((q.1 = 1 ∧ ∃ x : vp_A, ws[q.2]? = some (a, .inl (tA t, x)) ∧ x.1 = es.length ∧ xa_k t x ∧ ∀ (j : Nat) (y : XV), es[j]? = some y → xv_in (xad ws) ex y (xa_get x j)) ∨ (t = 0 ∧ ∃ j : Nat, ex[j]? = some a ∧ exc[j]? = some es)) := by
  unfold xarr at h
  by_cases h1 : q.1 = 1
  · rw [if_pos h1] at h
    cases hc : w[q.2]? with
    | none => rw [hc] at h; cases h
    | some z =>
      rw [hc] at h
      match z, hc, h with
      | .inl _, _, h => cases h
      | .inr o, hc, h =>
        cases h
        rcases hv with ⟨h0, _⟩ | ⟨a, rfl, ⟨_, ha⟩ | ⟨h2, _⟩⟩
        · omega
        · obtain ⟨e0, g1, x, rfl, g2, g3, g4⟩ := hw.at hc ha
          exact ⟨a, rfl, Or.inl ⟨h1, x, g1, g2, g3, g4⟩⟩
        · omega
  · rw [if_neg h1] at h
    by_cases h2 : q.1 = 2
    · rw [if_pos h2] at h
      cases hc : exc[q.2]? with
      | none => rw [hc] at h; cases h
      | some z =>
        rw [hc] at h
        cases h
        rcases hv with ⟨h0, _⟩ | ⟨a, rfl, ⟨h3, _⟩ | ⟨_, ha⟩⟩
        · omega
        · omega
        · exact ⟨a, rfl, Or.inr ⟨rfl, q.2, ha, hc⟩⟩
    · rw [if_neg h2] at h
      cases h
theorem xo_ald {ty kd : Nat} {i : Instr} (hi : (i = .iaload ∧ ty = 0 ∧ kd = 0) ∨ (i = .laload ∧ ty = 1 ∧ kd = 1) ∨ (i = .baload ∧ ty = 2 ∧ kd = 0) ∨ (i = .aaload ∧ ty = 3 ∧ kd = 2)) (hx : p.tables.exec = Jvm.exec) (hb : c.code = cc) (hd : decode cc pc = .ok (i, 1)) (hK : va_K D cl tys s) (hT : xty tys tA) (hE : xext A ex exc s) (h : xh_ald ty kd exc pc lv st w k n = some r) (hr : XRs p l e R s m args below meth c Q cc nL D cl tA A as0 ex ret r) : XSat p l e R s m args below meth c Q nL D cl tA A as0 ex (pc, lv, st, w, k, n) := by
  match st, h with
  | .inl z :: .inr (.inr q) :: st, h =>
    unfold xh_ald at h
    dsimp only at h
    cases ha : xarr w exc q with
    | none => rw [ha] at h; cases h
    | some o =>
      obtain ⟨t, es⟩ := o
      rw [ha] at h
      dsimp only at h
      by_cases ht : ty = t ∨ (ty = 3 ∧ 3 ≤ t)
      · rw [if_pos ht] at h
        cases hv : xread es z with
        | none => rw [hv] at h; cases h
        | some y =>
          rw [hv] at h
          dsimp only at h
          by_cases hk : xkd y = kd
          · rw [if_pos hk] at h
            cases h
            intro H locs ls vs lw ws ⟨h1, h2, h3, h4, h5, h6, h7, h8⟩
            obtain ⟨_, _, rfl, ⟨j, rfl, j1, j2⟩, v, vs', rfl, hq, h2⟩ := h2
            obtain ⟨hin, y0, hy0, hyy⟩ := xread_in (as := xad ws) (ex := ex) hv j1 j2
            obtain ⟨a, rfl, hc⟩ := xarr_in h3 ha hq
            rcases hc with ⟨-, x, g1, g2, g3, g4⟩ | ⟨t0, b, g1, g2⟩
            · have hval := hyy _ (g4 _ _ hy0)
              have go : W p l e R s m args below meth c H locs k n Q (F0 m (pc + 1) ls (xa_get x j.toNatClampNeg :: vs')) := hr H locs ls _ lw ws ⟨h1, ⟨_, vs', rfl, hval, h2⟩, h3, h4, h5, h6, h7, h8⟩
              obtain ⟨N, u⟩ := x
              have g2 : N = es.length := g2
              subst g2
              match u, g1, g3, go with
              | .inl f, g1, g3, go =>
                have g3 : t = 0 ∨ t = 2 := g3
                rcases hi with ⟨rfl, rfl, rfl⟩ | ⟨rfl, rfl, rfl⟩ | ⟨rfl, rfl, rfl⟩ | ⟨rfl, rfl, rfl⟩
                · have t0 : t = 0 := by omega
                  subst t0
                  exact va_iald hx hb hK h4 q.2 0 g1 hT.1 hin hd go
                · omega
                · have t0 : t = 2 := by omega
                  subst t0
                  exact va_zald hx hb hK h4 q.2 2 g1 hT.2.2.1 hin hd go
                · omega
              | .inr (.inl f), g1, g3, go =>
                have g3 : t = 1 := g3
                subst g3
                rcases hi with ⟨rfl, rfl, rfl⟩ | ⟨rfl, rfl, rfl⟩ | ⟨rfl, rfl, rfl⟩ | ⟨rfl, rfl, rfl⟩
                · omega
                · exact va_lald hx hb hK h4 q.2 1 g1 hT.2.1 hin hd go
                · omega
                · omega
              | .inr (.inr (.inl f)), _, g3, _ => exact absurd g3 id
              | .inr (.inr (.inr (.inl f))), _, g3, _ => exact absurd g3 id
              | .inr (.inr (.inr (.inr f))), g1, g3, go =>
                have g3 : 3 ≤ t ∧ t < 7 := g3
                obtain ⟨C, hC⟩ := hT.2.2.2 t g3.1 g3.2
                rcases hi with ⟨rfl, rfl, rfl⟩ | ⟨rfl, rfl, rfl⟩ | ⟨rfl, rfl, rfl⟩ | ⟨rfl, rfl, rfl⟩
                · omega
                · omega
                · omega
                · exact va_aldq hx hb hK h4 q.2 t g1 hC hin hd go
            · subst t0
              rcases hi with ⟨rfl, rfl, rfl⟩ | ⟨rfl, rfl, rfl⟩ | ⟨rfl, rfl, rfl⟩ | ⟨rfl, rfl, rfl⟩
              · obtain ⟨f, f1, f2⟩ := hE b a es g1 g2
                exact va_ti hx hb f1 h6 hin rfl hd (hr H locs ls _ lw ws ⟨h1, ⟨_, vs', rfl, hyy _ (f2 _ _ hy0).nil, h2⟩, h3, h4, h5, h6, h7, h8⟩)
              · omega
              · omega
              · omega
          · rw [if_neg hk] at h
            cases h
      · rw [if_neg ht] at h
        cases h
theorem xo_alen (hx : p.tables.exec = Jvm.exec) (hb : c.code = cc) (hd : decode cc pc = .ok (.arraylength, 1)) (hK : va_K D cl tys s) (hT : xty tys tA) (hE : xext A ex exc s) (h : xh_alen exc pc lv st w k n = some r) (hr : XRs p l e R s m args below meth c Q cc nL D cl tA A as0 ex ret r) : XSat p l e R s m args below meth c Q nL D cl tA A as0 ex (pc, lv, st, w, k, n) := by
  match st, h with
  | .inr (.inr q) :: st, h =>
    unfold xh_alen at h
    dsimp only at h
    cases ha : xarr w exc q with
    | none => rw [ha] at h; cases h
    | some o =>
      obtain ⟨t, es⟩ := o
      rw [ha] at h
      dsimp only at h
      by_cases hl : es.length < 2147483648
      · rw [if_pos hl] at h
        cases h
        intro H locs ls vs lw ws ⟨h1, h2, h3, h4, h5, h6, h7, h8⟩
        obtain ⟨v, vs', rfl, hq, h2⟩ := h2
        obtain ⟨a, rfl, hc⟩ := xarr_in h3 ha hq
        have go : W p l e R s m args below meth c H locs k n Q (F0 m (pc + 1) ls (.int (Int32.ofNat es.length) :: vs')) := hr H locs ls _ lw ws ⟨h1, ⟨_, vs', rfl, ⟨Int32.ofNat es.length, rfl, by rw [x_ofNat hl]; exact Int.le_refl _, by rw [x_ofNat hl]; exact Int.le_refl _⟩, h2⟩, h3, h4, h5, h6, h7, h8⟩
        rcases hc with ⟨-, x, g1, g2, g3, g4⟩ | ⟨t0, b, g1, g2⟩
        · have hty : ∃ ty, tys[t]? = some (tA t, ty) := by
            obtain ⟨N, u⟩ := x
            match u, g3 with
            | .inl f, g3 =>
              have g3 : t = 0 ∨ t = 2 := g3
              rcases g3 with rfl | rfl
              · exact ⟨_, hT.1⟩
              · exact ⟨_, hT.2.2.1⟩
            | .inr (.inl f), g3 =>
              have g3 : t = 1 := g3
              subst g3
              exact ⟨_, hT.2.1⟩
            | .inr (.inr (.inl f)), g3 => exact absurd g3 id
            | .inr (.inr (.inr (.inl f))), g3 => exact absurd g3 id
            | .inr (.inr (.inr (.inr f))), g3 =>
              obtain ⟨C, hC⟩ := hT.2.2.2 t g3.1 g3.2
              exact ⟨_, hC⟩
          obtain ⟨ty, hty⟩ := hty
          exact va_alen hx hb hK h4 q.2 t g1 hty (by rw [g2]) hd go
        · obtain ⟨f, f1, f2⟩ := hE b a es g1 g2
          exact va_tlen hx hb f1 h6 rfl hd go
      · rw [if_neg hl] at h
        cases h
theorem x_bool01 {x : XV} {as : List Nat} {y : Int32} (h : xbool x = true) (hv : xv_in as ex x (.int y)) : y = 0 ∨ y = 1 := by
  match x, h, hv with
  | .inl q, h, hv =>
    obtain ⟨u, e1, h1, h2⟩ := hv
    cases e1
    have h : decide (0 ≤ q.1 ∧ q.2 ≤ 1) = true := h
    have h := of_decide_eq_true h
    rcases (show y.toInt = 0 ∨ y.toInt = 1 by omega) with e | e
    · exact Or.inl (Int32.toInt_inj.mp (e.trans rfl))
    · exact Or.inr (Int32.toInt_inj.mp (e.trans rfl))
/-- a store into a row of numbers -/
theorem xo_ast {ty kd : Nat} {i : Instr} (hi : (i = .iastore ∧ ty = 0 ∧ kd = 0) ∨ (i = .lastore ∧ ty = 1 ∧ kd = 1) ∨ (i = .bastore ∧ ty = 2 ∧ kd = 0)) (hz : ty = 2 → ∀ x st', st = x :: st' → xbool x = true) (hx : p.tables.exec = Jvm.exec) (hb : c.code = cc) (hd : decode cc pc = .ok (i, 1)) (hK : va_K D cl tys s) (hT : xty tys tA) (h : xh_ast ty kd pc lv st w k n = some r) (hr : XRs p l e R s m args below meth c Q cc nL D cl tA A as0 ex ret r) : XSat p l e R s m args below meth c Q nL D cl tA A as0 ex (pc, lv, st, w, k, n) := by
  match st, h with
  | x :: .inl z :: .inr (.inr q) :: st, h =>
    unfold xh_ast at h
    dsimp only at h
    by_cases hq1 : q.1 = 1 ∧ xkd x = kd
    · rw [if_pos hq1] at h
      cases hc : w[q.2]? with
      | none => rw [hc] at h; cases h
      | some o =>
        rw [hc] at h
        match o, hc, h with
        | .inl _, _, h => cases h
        | .inr (t, es), hc, h =>
          dsimp only at h
          by_cases ht : ty = t
          · rw [if_pos ht] at h
            subst ht
            cases hw : xwrite es z x with
            | none => rw [hw] at h; cases h
            | some es' =>
              rw [hw] at h
              cases h
              intro H locs ls vs lw ws ⟨h1, h2, h3, h4, h5, h6, h7, h8⟩
              obtain ⟨v, _, rfl, hv, _, _, rfl, ⟨j, rfl, j1, j2⟩, u, vs', rfl, hq, h2⟩ := h2
              obtain ⟨hin, hlen, hel⟩ := xwrite_in (as := xad ws) (ex := ex) hw j1 j2
              rcases hq with ⟨h0, _⟩ | ⟨a, rfl, ⟨_, ha⟩ | ⟨h0, _⟩⟩
              · omega
              · obtain ⟨e0, g1, X, rfl, g2, g3, g4⟩ := h3.at hc ha
                obtain ⟨N, F⟩ := X
                have g2 : N = es.length := g2
                subst g2
                have go : ∀ (X' : vp_A) (H1 : Heap) (locs1 : List Loc), X'.1 = es.length → xa_k ty X' → (xa_get X' j.toNatClampNeg = v) → (∀ j', j' ≠ j.toNatClampNeg → xa_get X' j' = xa_get (es.length, F) j') → va_P D cl (ws.set q.2 (a, .inl (tA ty, X'))) H1 → va_D A (ws.set q.2 (a, .inl (tA ty, X'))) → va_S A s.heap H1 locs1 → W p l e R s m args below meth c H1 locs1 k n Q (F0 m (pc + 1) ls vs') := by
                  intro X' H1 locs1 e1 e2 e3 e4 hP hD hS
                  refine hr H1 locs1 ls vs' lw (ws.set q.2 (a, .inl (tA ty, X'))) ⟨by rw [xad_set g1]; exact h1, by rw [xad_set g1]; exact h2, h3.set g1 ⟨X', rfl, by rw [e1, hlen], e2, fun j' y hy => ?_⟩, hP, hD, hS, h7, by rw [xad_set g1]; exact h8⟩
                  obtain ⟨b1, b2⟩ := hel j' y hy
                  by_cases hj : j' = j.toNatClampNeg
                  · rw [hj, e3]
                    exact b1 hj _ hv
                  · rw [e4 j' hj]
                    obtain ⟨y0, c1, c2⟩ := b2 hj
                    exact c2 _ (g4 j' y0 c1)
                have hkv := hv.vk
                rw [hq1.2] at hkv
                match F, g1, g3, go with
                | .inl f, g1, g3, go =>
                  have g3 : ty = 0 ∨ ty = 2 := g3
                  rcases hi with ⟨rfl, rfl, rfl⟩ | ⟨rfl, rfl, rfl⟩ | ⟨rfl, rfl, rfl⟩
                  · obtain ⟨y, rfl⟩ := hkv
                    refine va_iast hx hb hK h4 h5 h6 q.2 0 g1 hT.1 hin hd (fun H1 locs1 hP hD hS => go (es.length, .inl (upd f j.toNatClampNeg y)) H1 locs1 rfl g3 ?_ ?_ hP hD hS)
                    · show Value.int (upd f j.toNatClampNeg y j.toNatClampNeg) = _
                      rw [pk_us]
                    · intro j' hj
                      show Value.int (upd f j.toNatClampNeg y j') = _
                      rw [pk_un hj]
                      rfl
                  · omega
                  · obtain ⟨y, rfl⟩ := hkv
                    have hy01 := x_bool01 (hz rfl _ _ rfl) hv
                    have hy : vp_nar .boolean y = y := by
                      rcases hy01 with rfl | rfl <;> decide +kernel
                    refine va_zast hx hb hK h4 h5 h6 q.2 2 g1 hT.2.2.1 hin hd (fun H1 locs1 hP hD hS => go (es.length, .inl (upd f j.toNatClampNeg (vp_nar .boolean y))) H1 locs1 rfl g3 ?_ ?_ hP hD hS)
                    · show Value.int (upd f j.toNatClampNeg (vp_nar .boolean y) j.toNatClampNeg) = _
                      rw [pk_us, hy]
                    · intro j' hj
                      show Value.int (upd f j.toNatClampNeg (vp_nar .boolean y) j') = _
                      rw [pk_un hj]
                      rfl
                | .inr (.inl f), g1, g3, go =>
                  have g3 : ty = 1 := g3
                  rcases hi with ⟨rfl, rfl, rfl⟩ | ⟨rfl, rfl, rfl⟩ | ⟨rfl, rfl, rfl⟩
                  · omega
                  · obtain ⟨y, rfl⟩ := hkv
                    refine va_last hx hb hK h4 h5 h6 q.2 1 g1 hT.2.1 hin hd (fun H1 locs1 hP hD hS => go (es.length, .inr (.inl (vp_updL f j.toNatClampNeg y))) H1 locs1 rfl g3 ?_ ?_ hP hD hS)
                    · show Value.long (vp_updL f j.toNatClampNeg y j.toNatClampNeg) = _
                      rw [pk_uLs]
                    · intro j' hj
                      show Value.long (vp_updL f j.toNatClampNeg y j') = _
                      rw [pk_uLn hj]
                      rfl
                  · omega
                | .inr (.inr (.inl f)), _, g3, _ => exact absurd g3 id
                | .inr (.inr (.inr (.inl f))), _, g3, _ => exact absurd g3 id
                | .inr (.inr (.inr (.inr f))), _, g3, _ =>
                  have g3 : 3 ≤ ty ∧ ty < 7 := g3
                  rcases hi with ⟨_, h, _⟩ | ⟨_, h, _⟩ | ⟨_, h, _⟩ <;> omega
              · omega
          · rw [if_neg ht] at h
            cases h
    · rw [if_neg hq1] at h
      cases h
theorem xo_aast {TC : Nat → Option Nat} (hTC : ∀ t b, TC t = some b → 3 ≤ t ∧ t < 7 ∧ ∃ o : vw_C, cl[b]? = some o ∧ tys[t]? = some (tA t, .object o.1)) (hx : p.tables.exec = Jvm.exec) (hb : c.code = cc) (hd : decode cc pc = .ok (.aastore, 1)) (hK : va_K D cl tys s) (h : xh_aast TC pc lv st w k n = some r) (hr : XRs p l e R s m args below meth c Q cc nL D cl tA A as0 ex ret r) : XSat p l e R s m args below meth c Q nL D cl tA A as0 ex (pc, lv, st, w, k, n) := by
  match st, h with
  | .inr (.inr v) :: .inl z :: .inr (.inr q) :: st, h =>
    unfold xh_aast at h
    dsimp only at h
    by_cases hq1 : q.1 = 1 ∧ v.1 = 1 ∧ z.1 = z.2
    · rw [if_pos hq1] at h
      cases hc : w[q.2]? with
      | none => rw [hc] at h; cases h
      | some o =>
        cases hcv : w[v.2]? with
        | none =>
          rw [hc, hcv] at h
          match o, h with
          | .inl _, h => cases h
          | .inr _, h => cases h
        | some ov =>
          rw [hc, hcv] at h
          match o, ov, hc, hcv, h with
          | .inl _, _, _, _, h => cases h
          | .inr (t, es), .inr _, _, _, h => cases h
          | .inr (t, es), .inl (b, fb), hc, hcv, h =>
            dsimp only at h
            by_cases ht : TC t = some b
            · rw [if_pos ht] at h
              obtain ⟨t3, t7, o, ho, hty⟩ := hTC t b ht
              cases hw : xwrite es z (.inr (.inr v)) with
              | none => rw [hw] at h; cases h
              | some es' =>
                rw [hw] at h
                cases h
                intro H locs ls vs lw ws ⟨h1, h2, h3, h4, h5, h6, h7, h8⟩
                obtain ⟨u, _, rfl, hv, _, _, rfl, ⟨j, rfl, j1, j2⟩, uq, vs', rfl, hq, h2⟩ := h2
                obtain ⟨hin, hlen, hel⟩ := xwrite_in (as := xad ws) (ex := ex) hw j1 j2
                have hvv : xv_in (xad ws) ex (.inr (.inr v)) u := hv
                rcases hq with ⟨h0, _⟩ | ⟨a, rfl, ⟨_, ha⟩ | ⟨h0, _⟩⟩
                · omega
                · rcases hv with ⟨h0, _⟩ | ⟨av, rfl, ⟨_, hav⟩ | ⟨h0, _⟩⟩
                  · omega
                  · obtain ⟨e0, g1, X, rfl, g2, g3, g4⟩ := h3.at hc ha
                    obtain ⟨ev, k1, vsv, rfl, k2⟩ := h3.at hcv hav
                    obtain ⟨N, F⟩ := X
                    have g2 : N = es.length := g2
                    subst g2
                    match F, g1, g3, g4 with
                    | .inl f, _, g3, _ =>
                      have g3 : t = 0 ∨ t = 2 := g3
                      omega
                    | .inr (.inl f), _, g3, _ =>
                      have g3 : t = 1 := g3
                      omega
                    | .inr (.inr (.inl f)), _, g3, _ => exact absurd g3 id
                    | .inr (.inr (.inr (.inl f))), _, g3, _ => exact absurd g3 id
                    | .inr (.inr (.inr (.inr f))), g1, g3, g4 =>
                      refine va_astq hx hb hK h4 h5 h6 q.2 t v.2 b g1 hty k1 ho hin hd (fun H1 locs1 hP hD hS => ?_)
                      refine hr H1 locs1 ls vs' lw _ ⟨by rw [xad_set g1]; exact h1, by rw [xad_set g1]; exact h2, h3.set g1 ⟨(es.length, .inr (.inr (.inr (.inr (va_up f j.toNatClampNeg (some av)))))), rfl, by rw [hlen], g3, fun j' y hy => ?_⟩, hP, hD, hS, h7, by rw [xad_set g1]; exact h8⟩
                      obtain ⟨b1, b2⟩ := hel j' y hy
                      by_cases hj : j' = j.toNatClampNeg
                      · have e3 : xa_get (es.length, .inr (.inr (.inr (.inr (va_up f j.toNatClampNeg (some av)))))) j' = .ref av := by
                          show va_rf (va_up f j.toNatClampNeg (some av) j') = _
                          rw [hj]
                          simp [va_up, va_rf]
                        rw [e3]
                        exact b1 hj _ hvv
                      · obtain ⟨y0, c1, c2⟩ := b2 hj
                        have e3 : xa_get (es.length, .inr (.inr (.inr (.inr (va_up f j.toNatClampNeg (some av)))))) j' = xa_get (es.length, .inr (.inr (.inr (.inr f)))) j' := by
                          show va_rf (va_up f j.toNatClampNeg (some av) j') = va_rf (f j')
                          simp [va_up, hj]
                        rw [e3]
                        exact c2 _ (g4 j' y0 c1)
                  · omega
                · omega
            · rw [if_neg ht] at h
              cases h
    · rw [if_neg hq1] at h
      cases h
end XO
end
section
/-! ===== what is made, objects' fields, calls ===== -/
theorem x_repl {as ex : List Nat} {x : XV} {x0 : vp_A} {N : Nat} (h : ∀ j, xv_in as ex x (xa_get x0 j)) : ∀ (j : Nat) (y : XV), (List.replicate N x)[j]? = some y → xv_in as ex y (xa_get x0 j) := by
  intro j y hy
  have hm := List.mem_of_getElem? hy
  rw [(List.mem_replicate.mp hm).2]
  exact h j
/-- of one type there is one class of arrays -/
theorem x_same {s : State} {c1 c2 : ClassId} {ty : FieldType} (h1 : va_RA s c1 ty) (h2 : va_RA s c2 ty) : c1 = c2 := by
  cases ty with
  | object C =>
    obtain ⟨_, _, _, _, _, a⟩ := h1
    obtain ⟨_, _, _, _, _, b⟩ := h2
    exact Option.some.inj (a.symm.trans b)
  | _ => exact Option.some.inj (Eq.trans (Eq.symm h1) h2)
/-- a class with its fields -/
def xclo (cl : List vw_C) (Ts : List Cond) (ci : Nat) (C : String) (T : u_T) (N : Nat) (ty : Nat → FieldType) : Prop := cl[ci]? = some (C, T, N) ∧ (∀ w ∈ u_ws C T N, w ∈ Ts) ∧ (∀ k, k < N → parseFieldDescriptor (T k).2.2.1 = some (ty k)) ∧ ∀ a, a < N → ∀ b, b < N → a ≠ b → (T a).2.1 ≠ (T b).2.1
section XO
variable {p : Program} {l : Launch} {e : Env} {R : Room} {s : State} {m : MethodId} {args : Array Value} {below : List Frame} {meth : Method} {c : Code} {Q : State → Prop} {cc : ByteArray} {nL : Nat} {D : va_G} {cl : List vw_C} {tys : List (ClassId × FieldType)} {tA : Nat → ClassId} {A : Nat → Prop} {as0 ex : List Nat} {exc : List (List XV)} {ret : Option FieldType} {pc : Nat} {lv : XL} {st : List XV} {w : XW} {k n : Nat} {r : XR} {own : String} {Ts : List Cond}
theorem x_small {q : Int × Int} {x : Int32} (h1 : q.1 ≤ x.toInt) (h2 : x.toInt ≤ q.2) (e0 : q.1 = q.2) (h0 : 0 ≤ q.1) : ¬ x < 0 ∧ x.toNatClampNeg = q.1.toNat := by
  refine ⟨fun h => ?_, ?_⟩
  · rw [Int32.lt_iff_toInt_lt] at h
    have z : (0 : Int32).toInt = 0 := rfl
    omega
  · have hn : x.toNatClampNeg = x.toInt.toNat := rfl
    rw [hn, show x.toInt = q.1 by omega]
theorem xo_newa {t : Nat} {at' : ArrayType} (hat : (at' = .int ∧ t = 0) ∨ (at' = .long ∧ t = 1) ∨ (at' = .boolean ∧ t = 2)) (hw0 : (Cond.arrayClass (newarray.typeOf at')).before args s = true) (hx : p.tables.exec = Jvm.exec) (hb : c.code = cc) (hd : decode cc pc = .ok (.newarray at', 2)) (hK : va_K D cl tys s) (hT : xty tys tA) (hA : ∀ q, s.heap.size ≤ q → A q) {TY : Option FieldType} (hTY : TY = some (newarray.typeOf at')) (h : xh_newa 2 t TY R.cells R.slots pc lv st w k n = some r) (hr : XRs p l e R s m args below meth c Q cc nL D cl tA A as0 ex ret r) : XSat p l e R s m args below meth c Q nL D cl tA A as0 ex (pc, lv, st, w, k, n) := by
  subst hTY
  match st, h with
  | .inl q :: st, h =>
    unfold xh_newa at h
    dsimp only at h
    by_cases hq : q.1 = q.2 ∧ 0 ≤ q.1 ∧ q.1 < 1000 ∧ k + 1 ≤ R.cells ∧ n + q.1.toNat ≤ R.slots
    · rw [if_pos hq] at h
      obtain ⟨q1, q2, q3, q4, q5⟩ := hq
      intro H locs ls vs lw ws ⟨h1, h2, h3, h4, h5, h6, h7, h8⟩
      obtain ⟨_, vs', rfl, ⟨x, rfl, x1, x2⟩, h2⟩ := h2
      obtain ⟨hn, hN⟩ := x_small x1 x2 q1 q2
      have go : ∀ (x0 : vp_A) (y : XV), xa_k t x0 → x0.1 = q.1.toNat → (∀ as (j : Nat), xv_in as ex y (xa_get x0 j)) → r = .inl (pc + 2, lv, .inr (.inr (1, w.length)) :: st, w ++ [.inr (t, List.replicate q.1.toNat y)], k + 1, n + q.1.toNat) → ∀ (g : Nat) (H1 : Heap), va_P D cl (ws ++ [(g, .inl (tA t, x0))]) H1 → va_D A (ws ++ [(g, .inl (tA t, x0))]) → va_S A s.heap H1 locs → W p l e R s m args below meth c H1 locs (k + 1) (n + q.1.toNat) Q (F0 m (pc + 2) ls (.ref g :: vs')) := by
        intro x0 y e1 e2 e3 e4 g H1 hP hD hS
        subst e4
        refine hr H1 locs ls (.ref g :: vs') lw (ws ++ [(g, .inl (tA t, x0))]) ⟨by rw [xad_push]; exact h1.mono _, ⟨_, vs', rfl, Or.inr ⟨g, rfl, Or.inl ⟨rfl, ?_⟩⟩, by rw [xad_push]; exact h2.mono _⟩, h3.push ⟨x0, rfl, by rw [e2, List.length_replicate], e1, x_repl (e3 _)⟩, hP, hD, hS, h7, ?_⟩
        · show (xad (ws ++ [(g, _)]))[w.length]? = some g
          rw [xad_push, h3.1, show ws.length = (xad ws).length by simp [xad]]
          simp
        · obtain ⟨tl, htl⟩ := h8
          exact ⟨tl ++ [g], by rw [xad_push, htl, List.append_assoc]⟩
      rcases hat with ⟨rfl, rfl⟩ | ⟨rfl, rfl⟩ | ⟨rfl, rfl⟩
      · refine va_newa (N' := q.1.toNat) (a0 := (q.1.toNat, .inl fun _ => 0)) hx hb hw0 rfl hK h4 h5 h6 hA (fun _ => rfl) hn hN (by show q.1.toNat * 4 ≤ _; omega) q4 q5 hd (fun g cA H1 hK1 hP hD hS => ?_)
        have ec : cA = tA 0 := x_same (hK1.2 tys.length (cA, .int) (by rw [List.getElem?_append_right (Nat.le_refl _), Nat.sub_self]; rfl)).2 (hK.2 0 _ hT.1).2
        subst ec
        exact go (q.1.toNat, .inl fun _ => 0) (xi 0) (Or.inl rfl) rfl (fun _ _ => ⟨0, rfl, Int.le_refl _, Int.le_refl _⟩) (Option.some.inj h).symm g H1 hP hD hS
      · refine va_newa (N' := q.1.toNat) (a0 := (q.1.toNat, .inr (.inl fun _ => 0))) hx hb hw0 rfl hK h4 h5 h6 hA (fun _ => rfl) hn hN (by show q.1.toNat * 8 ≤ _; omega) q4 q5 hd (fun g cA H1 hK1 hP hD hS => ?_)
        have ec : cA = tA 1 := x_same (hK1.2 tys.length (cA, .long) (by rw [List.getElem?_append_right (Nat.le_refl _), Nat.sub_self]; rfl)).2 (hK.2 1 _ hT.2.1).2
        subst ec
        exact go (q.1.toNat, .inr (.inl fun _ => 0)) (.inr (.inl (some 0))) rfl rfl (fun _ _ => ⟨0, rfl, fun z hz => by cases hz; rfl⟩) (Option.some.inj h).symm g H1 hP hD hS
      · refine va_newa (N' := q.1.toNat) (a0 := (q.1.toNat, .inl fun _ => 0)) hx hb hw0 rfl hK h4 h5 h6 hA (fun _ => rfl) hn hN (by show q.1.toNat * 1 ≤ _; omega) q4 q5 hd (fun g cA H1 hK1 hP hD hS => ?_)
        have ec : cA = tA 2 := x_same (hK1.2 tys.length (cA, .boolean) (by rw [List.getElem?_append_right (Nat.le_refl _), Nat.sub_self]; rfl)).2 (hK.2 2 _ hT.2.2.1).2
        subst ec
        exact go (q.1.toNat, .inl fun _ => 0) (xi 0) (Or.inr rfl) rfl (fun _ _ => ⟨0, rfl, Int.le_refl _, Int.le_refl _⟩) (Option.some.inj h).symm g H1 hP hD hS
    · rw [if_neg hq] at h
      cases h
theorem xo_newq {t idx : Nat} {C : String} (t3 : 3 ≤ t) (t7 : t < 7) (hty : tys[t]? = some (tA t, .object C)) (hown : s.vm.findClass own = some m.cls) (hcl : (Cond.classLink own idx C).before args s = true) (hov : (Cond.arrayOver (.object C)).before args s = true) (hx : p.tables.exec = Jvm.exec) (hb : c.code = cc) (hd : decode cc pc = .ok (.anewarray idx, 3)) (hK : va_K D cl tys s) (hA : ∀ q, s.heap.size ≤ q → A q) {TY : Option FieldType} (hTY : TY = some (.object C)) (h : xh_newa 3 t TY R.cells R.slots pc lv st w k n = some r) (hr : XRs p l e R s m args below meth c Q cc nL D cl tA A as0 ex ret r) : XSat p l e R s m args below meth c Q nL D cl tA A as0 ex (pc, lv, st, w, k, n) := by
  subst hTY
  match st, h with
  | .inl q :: st, h =>
    unfold xh_newa at h
    dsimp only at h
    by_cases hq : q.1 = q.2 ∧ 0 ≤ q.1 ∧ q.1 < 1000 ∧ k + 1 ≤ R.cells ∧ n + q.1.toNat ≤ R.slots
    · rw [if_pos hq] at h
      obtain ⟨q1, q2, q3, q4, q5⟩ := hq
      cases h
      intro H locs ls vs lw ws ⟨h1, h2, h3, h4, h5, h6, h7, h8⟩
      obtain ⟨_, vs', rfl, ⟨x, rfl, x1, x2⟩, h2⟩ := h2
      obtain ⟨hn, hN⟩ := x_small x1 x2 q1 q2
      refine va_newq (N' := q.1.toNat) hx hb hown hcl (va_AO.of hov) hK h4 h5 h6 hA hn hN (by omega) q4 q5 hd (fun g cA H1 hK1 hP hD hS => ?_)
      have ec : cA = tA t := x_same (hK1.2 tys.length (cA, .object C) (by rw [List.getElem?_append_right (Nat.le_refl _), Nat.sub_self]; rfl)).2 (hK.2 t _ hty).2
      subst ec
      refine hr H1 locs ls (.ref g :: vs') lw _ ⟨by rw [xad_push]; exact h1.mono _, ⟨_, vs', rfl, Or.inr ⟨g, rfl, Or.inl ⟨rfl, ?_⟩⟩, by rw [xad_push]; exact h2.mono _⟩, h3.push ⟨(q.1.toNat, .inr (.inr (.inr (.inr (fun _ => none))))), rfl, by rw [List.length_replicate], show 3 ≤ t ∧ t < 7 from ⟨t3, t7⟩, x_repl (fun _ => Or.inl ⟨rfl, rfl⟩)⟩, hP, hD, hS, h7, ?_⟩
      · show (xad (ws ++ [(g, _)]))[w.length]? = some g
        rw [xad_push, h3.1, show ws.length = (xad ws).length by simp [xad]]
        simp
      · obtain ⟨tl, htl⟩ := h8
        exact ⟨tl ++ [g], by rw [xad_push, htl, List.append_assoc]⟩
    · rw [if_neg hq] at h
      cases h
theorem xo_new {ci idx : Nat} {C : String} {T : u_T} {N : Nat} {ty : Nat → FieldType} {fs : List XV} {fv : List Value} (hC : xclo cl Ts ci C T N ty) (hfl : fs.length = N) (hfv : ∀ as : List Nat, xl_in as ex fs fv) (hdf : ∀ j, j < N → defaultValue (ty j) = vp_V fv j) (hts : ∀ w ∈ Ts, w.before args s = true) (hown : s.vm.findClass own = some m.cls) (hcl : (Cond.classLink own idx C).before args s = true) (hin : (Cond.instantiable C N).before args s = true) (hini : (Cond.initialized C).before args s = true) (hx : p.tables.exec = Jvm.exec) (hb : c.code = cc) (hd : decode cc pc = .ok (.new idx, 3)) (hK : va_K D cl tys s) (hA : ∀ q, s.heap.size ≤ q → A q) {FD : Option (List XV)} (hFD : FD = some fs) (h : xh_new ci FD R.cells R.slots pc lv st w k n = some r) (hr : XRs p l e R s m args below meth c Q cc nL D cl tA A as0 ex ret r) : XSat p l e R s m args below meth c Q nL D cl tA A as0 ex (pc, lv, st, w, k, n) := by
  subst hFD
  unfold xh_new at h
  dsimp only at h
  by_cases hq : k + 1 ≤ R.cells ∧ n + fs.length ≤ R.slots
  · rw [if_pos hq] at h
    cases h
    intro H locs ls vs lw ws ⟨h1, h2, h3, h4, h5, h6, h7, h8⟩
    rw [hfl] at hq
    refine va_new (ci := ci) (fs := fv) hx hb hts hC.2.1 ty hC.2.2.1 hown hcl hin hini hK h4 h5 h6 hA hC.1 hdf hq.1 hq.2 hd (fun g H1 hP hD hS => ?_)
    have hk2 : (k + 1, n + N) = (k + 1, n + fs.length) := by rw [hfl]
    have go := hr H1 locs ls (.ref g :: vs) lw (ws ++ [(g, .inr (ci, fv))]) ⟨by rw [xad_push]; exact h1.mono _, ⟨_, vs, rfl, Or.inr ⟨g, rfl, Or.inl ⟨rfl, by
        show (xad (ws ++ [(g, _)]))[w.length]? = some g
        rw [xad_push, h3.1, show ws.length = (xad ws).length by simp [xad]]
        simp⟩⟩, by rw [xad_push]; exact h2.mono _⟩, h3.push ⟨fv, rfl, hfv _⟩, hP, hD, hS, h7, by
        obtain ⟨tl, htl⟩ := h8
        exact ⟨tl ++ [g], by rw [xad_push, htl, List.append_assoc]⟩⟩
    rw [← hfl]
    exact go
  · rw [if_neg hq] at h
    cases h
theorem xo_get {ci f idx : Nat} {C : String} {T : u_T} {N : Nat} {ty : Nat → FieldType} (hC : xclo cl Ts ci C T N ty) (hf : f < N) (hts : ∀ w ∈ Ts, w.before args s = true) (hown : s.vm.findClass own = some m.cls) (hlk : (Cond.fieldLink own idx (T f).1 (T f).2.1 (T f).2.2.1).before args s = true) (hx : p.tables.exec = Jvm.exec) (hb : c.code = cc) (hd : decode cc pc = .ok (.getfield idx, 3)) (hK : va_K D cl tys s) (h : xh_get ci f pc lv st w k n = some r) (hr : XRs p l e R s m args below meth c Q cc nL D cl tA A as0 ex ret r) : XSat p l e R s m args below meth c Q nL D cl tA A as0 ex (pc, lv, st, w, k, n) := by
  match st, h with
  | .inr (.inr q) :: st, h =>
    unfold xh_get at h
    dsimp only at h
    by_cases hq1 : q.1 = 1
    · rw [if_pos hq1] at h
      cases hc : w[q.2]? with
      | none => rw [hc] at h; cases h
      | some o =>
        rw [hc] at h
        match o, hc, h with
        | .inr _, _, h' => cases h'
        | .inl (ci', fs), hc, h' =>
          dsimp only at h'
          by_cases hci : ci' = ci
          · rw [if_pos hci] at h'
            subst hci
            cases hfs : fs[f]? with
            | none => rw [hfs] at h'; cases h'
            | some y =>
              rw [hfs] at h'
              cases h'
              intro H locs ls vs lw ws ⟨h1, h2, h3, h4, h5, h6, h7, h8⟩
              obtain ⟨u, vs', rfl, hq, h2⟩ := h2
              rcases hq with ⟨h0, _⟩ | ⟨a, rfl, ⟨_, ha⟩ | ⟨h0, _⟩⟩
              · omega
              · obtain ⟨e0, g1, fv, rfl, g2⟩ := h3.at hc ha
                obtain ⟨v, hv1, hv2⟩ := g2.get hfs
                exact va_get hx hb hts hC.2.1 hown hK h4 q.2 g1 hC.1 f hf hlk (fun _ h9 => h9) hv1 hd (hr H locs ls (v :: vs') lw ws ⟨h1, ⟨v, vs', rfl, hv2, h2⟩, h3, h4, h5, h6, h7, h8⟩)
              · omega
          · rw [if_neg hci] at h'
            cases h'
    · rw [if_neg hq1] at h
      cases h
theorem x_fit {as : List Nat} : ∀ {ty : FieldType} {x : XV} {v : Value}, xfit ty x = true → xv_in as ex x v → narrow ty v = v ∧ fits ty v = true
  | ty, .inl q, v, h, ⟨x, e0, _⟩ => by
    subst e0
    cases ty <;> first | exact ⟨rfl, rfl⟩ | cases h
  | ty, .inr (.inl q), v, h, ⟨x, e0, _⟩ => by
    subst e0
    cases ty <;> first | exact ⟨rfl, rfl⟩ | cases h
  | ty, .inr (.inr q), v, h, hv => by
    rcases hv with ⟨_, e0⟩ | ⟨a, e0, _⟩ <;> subst e0 <;> cases ty <;> first | exact ⟨rfl, rfl⟩ | cases h
theorem xo_put {ci f idx : Nat} {C : String} {T : u_T} {N : Nat} {ty : Nat → FieldType} (hC : xclo cl Ts ci C T N ty) (hf : f < N) (hfin : (T f).2.2.2 = false ∨ ((T f).2.2.2 = true ∧ meth.name = "<init>" ∧ (T f).1 = own)) (hts : ∀ w ∈ Ts, w.before args s = true) (hown : s.vm.findClass own = some m.cls) (hlk : (Cond.fieldLink own idx (T f).1 (T f).2.1 (T f).2.2.1).before args s = true) (hx : p.tables.exec = Jvm.exec) (hb : c.code = cc) (hd : decode cc pc = .ok (.putfield idx, 3)) (hK : va_K D cl tys s) {FT : Option FieldType} (hFT : FT = some (ty f)) (h : xh_put ci f FT pc lv st w k n = some r) (hr : XRs p l e R s m args below meth c Q cc nL D cl tA A as0 ex ret r) : XSat p l e R s m args below meth c Q nL D cl tA A as0 ex (pc, lv, st, w, k, n) := by
  subst hFT
  match st, h with
  | x :: .inr (.inr q) :: st, h =>
    unfold xh_put at h
    dsimp only at h
    by_cases hq1 : q.1 = 1
    · rw [if_pos hq1] at h
      cases hc : w[q.2]? with
      | none => rw [hc] at h; cases h
      | some o =>
        rw [hc] at h
        match o, hc, h with
        | .inr _, _, h' => cases h'
        | .inl (ci', fs), hc, h' =>
          dsimp only at h'
          by_cases hci : ci' = ci ∧ f < fs.length ∧ xfit (ty f) x = true
          · rw [if_pos hci] at h'
            obtain ⟨hci, hfl, hfit⟩ := hci
            subst hci
            cases h'
            intro H locs ls vs lw ws ⟨h1, h2, h3, h4, h5, h6, h7, h8⟩
            obtain ⟨v, _, rfl, hv, u, vs', rfl, hq, h2⟩ := h2
            rcases hq with ⟨h0, _⟩ | ⟨a, rfl, ⟨_, ha⟩ | ⟨h0, _⟩⟩
            · omega
            · obtain ⟨e0, g1, fv, rfl, g2⟩ := h3.at hc ha
              obtain ⟨n1, n2⟩ := x_fit hfit hv
              have go : ∀ (H1 : Heap) (locs1 : List Loc), va_P D cl (ws.set q.2 (a, .inr (ci', fv.set f v))) H1 → va_D A (ws.set q.2 (a, .inr (ci', fv.set f v))) → va_S A s.heap H1 locs1 → W p l e R s m args below meth c H1 locs1 k n Q (F0 m (pc + 3) ls vs') := fun H1 locs1 hP hD hS => hr H1 locs1 ls vs' lw _ ⟨by rw [xad_set g1]; exact h1, by rw [xad_set g1]; exact h2, h3.set g1 ⟨fv.set f v, rfl, g2.set hv⟩, hP, hD, hS, h7, by rw [xad_set g1]; exact h8⟩
              rcases hfin with hfin | ⟨hfin, hin2, hdecl⟩
              · exact va_put hx hb hts hC.2.1 ty hC.2.2.1 hC.2.2.2 hown hK h4 h5 h6 q.2 g1 hC.1 f hf hlk (fun _ h9 => h9) hfin (hC.2.2.1 f hf) n1 n2 (by rw [g2.len]; exact hfl) hd go
              · exact va_putF hx hb hts hC.2.1 ty hC.2.2.1 hC.2.2.2 hown hK h4 h5 h6 q.2 g1 hC.1 f hf hlk (fun _ h9 => h9) hfin hin2 hdecl (hC.2.2.1 f hf) n1 n2 (by rw [g2.len]; exact hfl) hd go
            · omega
          · rw [if_neg hci] at h'
            cases h'
    · rw [if_neg hq1] at h
      cases h
theorem xo_oinit {M : XM} {idx : Nat} (hRf : R.frames = xm_f M) (hRo : R.locals = xm_o M) (hml : c.maxLocals = nL) (hown : s.vm.findClass own = some m.cls) (hlk : (Cond.methodLink own idx Lib.objectInit).before args s = true) (hin : (Cond.instanceMethod Lib.objectInit).before args s = true) (hcd : (Cond.code Lib.objectInit ⟨#[0xb1]⟩ 1 none).before args s = true) (hx : p.tables.exec = Jvm.exec) (hb : c.code = cc) (hd : decode cc pc = .ok (.invokespecial idx, 3)) (h : xh_oinit M pc lv st w k n = some r) (hr : XRs p l e R s m args below meth c Q cc nL D cl tA A as0 ex ret r) : XSat p l e R s m args below meth c Q nL D cl tA A as0 ex (pc, lv, st, w, k, n) := by
  match st, h with
  | .inr (.inr q) :: st, h =>
    unfold xh_oinit at h
    dsimp only at h
    by_cases hq : q.1 = 1 ∧ 1 ≤ xm_f M ∧ (st.map xcat).sum + 12 ≤ xm_o M
    · rw [if_pos hq] at h
      cases h
      intro H locs ls vs lw ws ⟨h1, h2, h3, h4, h5, h6, h7, h8⟩
      obtain ⟨u, vs', rfl, hv, h2⟩ := h2
      rcases hv with ⟨h0, _⟩ | ⟨a, rfl, _⟩
      · omega
      · refine W.objInit hx hb hown hlk hin hcd rfl (by rw [hml]; exact h7.1) rfl hd (by rw [hRf]; exact hq.2.1) (by
          show 2 * 0 + _ + 12 ≤ _
          rw [h2.cats, hRo]
          omega) ?_
        exact hr H locs ls vs' lw ws ⟨h1, h2, h3, h4, h5, h6, h7, h8⟩
    · rw [if_neg hq] at h
      cases h
end XO
end
section
/-! ===== a method's surroundings, its contract, a call ===== -/
/-- what holds around a method: the classes, the rows outside of the world, the statics, the nest mates' words -/
def XEnv (D : va_G) (cl : List vw_C) (tys : List (ClassId × FieldType)) (ex : List Nat) (exc : List (List XV)) (SV : List (String × String × String × Nat)) (NW : List (String × Nat × MethodName × String)) (NF : List (String × Nat × String × String × String × String)) (A : Nat → Prop) (U : State) : Prop :=
  va_K D cl tys U ∧ xext A ex exc U ∧ (∀ q ∈ SV, ∃ a, ex[q.2.2.2]? = some a ∧ va_Z q.1 q.2.1 q.2.2.1 (.ref a) A U U.heap) ∧ (∀ q ∈ NW, va_Nw (.methodLinkNest q.1 q.2.1 q.2.2.1 q.2.2.2) U) ∧ ∀ q ∈ NF, va_Nw (.fieldLinkNest q.1 q.2.1 q.2.2.1 q.2.2.2.1 q.2.2.2.2.1 q.2.2.2.2.2) U
theorem XEnv.move {D : va_G} {cl : List vw_C} {tys : List (ClassId × FieldType)} {ex : List Nat} {exc : List (List XV)} {SV : List (String × String × String × Nat)} {NW : List (String × Nat × MethodName × String)} {NF : List (String × Nat × String × String × String × String)} {A B : Nat → Prop} {s U : State} (h : XEnv D cl tys ex exc SV NW NF A s) (hW : s.WarmedH U.vm) (hq : ∀ a : Nat, a < s.heap.size → ¬ A a → U.heap[a]? = s.heap[a]?) (hAB : ∀ q, B q → A q) : XEnv D cl tys ex exc SV NW NF B U := by
  obtain ⟨h1, h2, h3, h4, h5⟩ := h
  refine ⟨va_K.moved hW.alike h1, fun j a es ha he => ?_, fun q hq' => ?_, fun q hq' => va_Nw.warmM hW (h4 q hq'), fun q hq' => va_Nw.warmF hW (h5 q hq')⟩
  · obtain ⟨f, f1, f2⟩ := h2 j a es ha he
    exact ⟨f, ((f1.moved hW.alike).kept hq).narrow hAB, f2⟩
  · obtain ⟨a, a1, a2⟩ := h3 q hq'
    exact ⟨a, a1, ((a2.moved hW.alike).kept hq).narrow hAB⟩
abbrev xws (Ts : List Cond) (N : XM) : List Cond := .code (xm_y N) (xm_c N) (xm_l N) (xm_r N) :: Ts
abbrev xrm (N : XM) : Room := { frames := xm_f N, cells := xm_k N, slots := xm_n N, locals := xm_o N }
def XPc (D : va_G) (cl : List vw_C) (tys : List (ClassId × FieldType)) (ex : List Nat) (exc : List (List XV)) (SV : List (String × String × String × Nat)) (NW : List (String × Nat × MethodName × String)) (NF : List (String × Nat × String × String × String × String)) (vals : List Value) (ws : va_W) (sz : Nat) : Array Value → State → Prop := va_Pc vals (fun U => U.heap.size = sz ∧ va_P D cl ws U.heap ∧ va_D (fun _ => True) ws ∧ XEnv D cl tys ex exc SV NW NF (va_A ws sz) U)
def XQ (D : va_G) (cl : List vw_C) (tA : Nat → ClassId) (ex : List Nat) (ro : Option XV) (w' : XW) (ws : va_W) (sz : Nat) : Array Value → State → Outcome → State → Prop := fun _ st oc t => (∃ (rv : Option Value) (ws' : va_W), oc = .returned rv ∧ xo_in (xad ws') ex ro rv ∧ va_P D cl ws' t.heap ∧ va_D (va_A ws sz) ws' ∧ xw_in ex tA w' ws' ∧ ∃ tl, xad ws' = xad ws ++ tl) ∧ va_F (va_A ws sz) st t
def XMet (l : Launch) (D : va_G) (cl : List vw_C) (tys : List (ClassId × FieldType)) (tA : Nat → ClassId) (ex : List Nat) (exc : List (List XV)) (SV : List (String × String × String × Nat)) (NW : List (String × Nat × MethodName × String)) (NF : List (String × Nat × String × String × String × String)) (Ts : List Cond) (N : XM) (as : List XV) (w : XW) (ro : Option XV) (w' : XW) : Prop := ∀ (vals : List Value) (ws : va_W) (sz : Nat), xl_in (xad ws) ex as vals → xw_in ex tA w ws → Met l (xm_y N) (xws Ts N) (xrm N) (XPc D cl tys ex exc SV NW NF vals ws sz) (XQ D cl tA ex ro w' ws sz) (xm_k N) (xm_n N) (va_A ws sz)
section XO
variable {p : Program} {l : Launch} {e : Env} {R : Room} {s : State} {m : MethodId} {args : Array Value} {below : List Frame} {meth : Method} {c : Code} {Q : State → Prop} {cc : ByteArray} {nL : Nat} {D : va_G} {cl : List vw_C} {tys : List (ClassId × FieldType)} {tA : Nat → ClassId} {A : Nat → Prop} {as0 ex : List Nat} {exc : List (List XV)} {ret : Option FieldType} {pc : Nat} {lv : XL} {st : List XV} {w : XW} {k n : Nat} {r : XR} {own : String} {Ts : List Cond} {SV : List (String × String × String × Nat)} {NW : List (String × Nat × MethodName × String)} {NF : List (String × Nat × String × String × String × String)}
theorem x_back {mc ms : Nat} {rest st0 : List Value} {ro : Option XV} {w' : XW} {ws : va_W} {H : Heap} {locs : List Loc} {ls : Array Slot} {av : Array Value} (hr0 : va_Run p l e R s m args below meth c H locs k n mc ms (F0 m pc ls st0) rest (XQ D cl tA ex ro w' ws H.size av) (va_A ws H.size)) (hS : va_S A s.heap H locs) (hF : ∀ q, va_A ws H.size q → A q) (kk : ∀ (rv : Option Value) (ws' : va_W) (H1 : Heap) (locs1 : List Loc), xo_in (xad ws') ex ro rv → va_P D cl ws' H1 → va_D A ws' → xw_in ex tA w' ws' → (∃ tl, xad ws' = xad ws ++ tl) → va_S A s.heap H1 locs1 → W p l e R s m args below meth c H1 locs1 (k + mc) (n + ms) Q (F0 m (pc + 3) ls (rv.toList ++ rest))) : W p l e R s m args below meth c H locs k n Q (F0 m pc ls st0) := by
  intro T hT X
  obtain ⟨v, st₀, t, T', L, h0, X', hL, e1, e2, ⟨⟨rv, ws', hv, ho, hP, hD, hw, htl⟩, hz, hk⟩, st⟩ := hr0 T hT X
  cases hv
  rw [h0] at hz hk
  obtain ⟨t2, a1, b1⟩ := kk v ws' T'.heap (locs ++ L) ho (by rw [e1]; exact hP) (hD.weaken (fun _ q _ h => hF q.1 h)) hw htl
    ⟨Nat.le_trans hS.1 (by rw [e1]; exact hz), fun q h1 h2 => by rw [e1, hk q (Nat.lt_of_lt_of_le h1 hS.1) (fun z => h2 (hF q z))]; exact hS.2.1 q h1 h2, fun q hq => by
      rcases List.mem_append.mp hq with h | h
      · exact hS.2.2 q h
      · exact hF _ (hL q h)⟩ T' rfl X'
  exact ⟨t2, st t2 a1, b1⟩
theorem x_free {ws : va_W} {H : Heap} {locs : List Loc} (hD : va_D A ws) (hS : va_S A s.heap H locs) (hA : ∀ q, s.heap.size ≤ q → A q) : ∀ q, va_A ws H.size q → A q := by
  intro q h
  rcases h with ⟨i, e0, h⟩ | h
  · exact hD.2 i (q, e0) h
  · exact hA q (Nat.le_trans hS.1 h)
theorem x_blind {vals : List Value} {ws : va_W} {sz : Nat} : FrameBlind (XPc D cl tys ex exc SV NW NF vals ws sz) := by
  intro a U g mk h
  obtain ⟨h1, h2, h3, h4, h5⟩ := h
  exact ⟨h1, h2, h3, h4, XEnv.move (U := U.calling g mk a) h5 (State.WarmedH.refl U) (fun _ _ _ => rfl) (fun _ h => h)⟩
theorem x_pre {vals : List Value} {ws : va_W} {H : Heap} {locs : List Loc} (hE : XEnv D cl tys ex exc SV NW NF A s) (hP : va_P D cl ws H) (hD : va_D A ws) (hS : va_S A s.heap H locs) (hF : ∀ q, va_A ws H.size q → A q) : PreS s H (XPc D cl tys ex exc SV NW NF vals ws H.size) vals :=
  ⟨x_blind, fun U hU hW => ⟨rfl, by rw [hU], by rw [hU]; exact hP, hD.weaken (fun _ _ _ _ => trivial), XEnv.move hE hW (fun a h1 h2 => by rw [hU]; exact hS.2.1 a h1 h2) hF⟩⟩
/-- a call, of whatever kind: what its run says, given the callee's contract -/
theorem xo_call {cf : XF} {M N : XM} {j na : Nat} {recv : Bool} (hE : XEnv D cl tys ex exc SV NW NF A s) (hA : ∀ q, s.heap.size ≤ q → A q) (hRf : R.frames = xm_f M) (hRo : R.locals = xm_o M) (hRk : R.cells = xm_k M) (hRn : R.slots = xm_n M) (hcf : ∀ (as : List XV) (w : XW) (ro : Option XV) (w' : XW), cf j as w = some (ro, w') → XMet l D cl tys tA ex exc SV NW NF Ts N as w ro w')
    (run : ∀ (ro : Option XV) (w' : XW) (vals rest : List Value) (ws : va_W) (H : Heap) (locs : List Loc) (ls : Array Slot), vals.length = na → ls.size = nL → xl_in (xad ws) ex (st.take na).reverse vals → xw_in ex tA w ws → va_P D cl ws H → (!recv || xrecv w (xm_i N) (st.take na).reverse) = true → xm_f N + 1 ≤ R.frames ∧ 8 + (xm_l N + 11) + xm_o N ≤ R.locals → k + xm_k N ≤ R.cells ∧ n + xm_n N ≤ R.slots → 2 * (F0 m pc ls (vals.reverse ++ rest)).monitorRoom + (rest.map fun v => v.category).sum ≤ 8 → Met l (xm_y N) (xws Ts N) (xrm N) (XPc D cl tys ex exc SV NW NF vals ws H.size) (XQ D cl tA ex ro w' ws H.size) (xm_k N) (xm_n N) (va_A ws H.size) → PreS s H (XPc D cl tys ex exc SV NW NF vals ws H.size) vals → va_Run p l e R s m args below meth c H locs k n (xm_k N) (xm_n N) (F0 m pc ls (vals.reverse ++ rest)) rest (XQ D cl tA ex ro w' ws H.size vals.toArray) (va_A ws H.size))
    (h : xh_call cf M (some N) j na recv pc lv st w k n = some r) (hr : XRs p l e R s m args below meth c Q cc nL D cl tA A as0 ex ret r) : XSat p l e R s m args below meth c Q nL D cl tA A as0 ex (pc, lv, st, w, k, n) := by
  unfold xh_call at h
  dsimp only at h
  by_cases hq : na ≤ st.length ∧ ((st.drop na).map xcat).sum ≤ 8 ∧ xm_f N + 1 ≤ xm_f M ∧ 8 + (xm_l N + 11) + xm_o N ≤ xm_o M ∧ k + xm_k N ≤ xm_k M ∧ n + xm_n N ≤ xm_n M ∧ (!recv || xrecv w (xm_i N) (st.take na).reverse) = true
  · rw [if_pos hq] at h
    obtain ⟨q1, q2, q3, q4, q5, q6, q7⟩ := hq
    cases hc : cf j (st.take na).reverse w with
    | none => rw [hc] at h; cases h
    | some o =>
      obtain ⟨ro, w'⟩ := o
      rw [hc] at h
      cases h
      intro H locs ls vs lw ws ⟨h1, h2, h3, h4, h5, h6, h7, h8⟩
      have hF := x_free h5 h6 hA
      have ht : xl_in (xad ws) ex (st.take na) (vs.take na) := h2.take na
      have hdr : xl_in (xad ws) ex (st.drop na) (vs.drop na) := h2.drop na
      have hlen := ht.len
      rw [List.length_take, List.length_take, Nat.min_eq_left q1] at hlen
      have hvals := ht.rev
      have e0 : vs = ((vs.take na).reverse).reverse ++ vs.drop na := by rw [List.reverse_reverse, List.take_append_drop]
      have hl2 : (vs.take na).reverse.length = na := by rw [List.length_reverse, List.length_take]; exact hlen
      have hrun := run ro w' (vs.take na).reverse (vs.drop na) ws H locs ls hl2 h7.1 hvals h3 h4 q7 ⟨by rw [hRf]; exact q3, by rw [hRo]; exact q4⟩ ⟨by rw [hRk]; exact q5, by rw [hRn]; exact q6⟩ (by
        show 2 * 0 + _ ≤ 8
        rw [hdr.cats]
        omega) (hcf _ _ _ _ hc _ ws H.size hvals h3) (x_pre hE h4 h5 h6 hF)
      rw [← e0] at hrun
      refine x_back hrun h6 hF (fun rv ws' H1 locs1 a1 a2 a3 a4 a5 a6 => ?_)
      obtain ⟨tl, htl⟩ := a5
      refine hr H1 locs1 ls (rv.toList ++ vs.drop na) lw ws' ⟨by rw [htl]; exact h1.mono tl, ?_, a4, a2, a3, a6, h7, ?_⟩
      · have hd2 : xl_in (xad ws') ex (st.drop na) (vs.drop na) := by rw [htl]; exact hdr.mono tl
        cases ro with
        | none =>
          have a1 : rv = none := a1
          subst a1
          exact hd2
        | some x =>
          obtain ⟨u, rfl, hu⟩ := a1
          exact ⟨u, vs.drop na, rfl, hu, hd2⟩
      · obtain ⟨t0, ht0⟩ := h8
        exact ⟨t0 ++ tl, by rw [htl, ht0, List.append_assoc]⟩
  · rw [if_neg hq] at h
    cases h
end XO
end
section
/-! ===== one instruction, a run, a method ===== -/
def xlen : Instr → Nat
  | .bipush _ => 2
  | .sipush _ => 3
  | .ldc _ => 2
  | .ldc_w _ => 3
  | .ldc2_w _ => 3
  | .iload _ => 2
  | .lload _ => 2
  | .aload _ => 2
  | .istore _ => 2
  | .lstore _ => 2
  | .astore _ => 2
  | .iinc _ _ => 3
  | .ifCond _ _ => 3
  | .if_icmp _ _ => 3
  | .ifnull _ => 3
  | .ifnonnull _ => 3
  | .goto _ => 3
  | .newarray _ => 2
  | .anewarray _ => 3
  | .new _ => 3
  | .getfield _ => 3
  | .putfield _ => 3
  | .getstatic _ => 3
  | .invokevirtual _ => 3
  | .invokestatic _ => 3
  | .invokespecial _ => 3
  | _ => 1
def xdec (cc : ByteArray) (pc : Nat) : Instr → Prop
  | .tableswitch d lo hi o => ∃ n, decode cc pc = .ok (.tableswitch d lo hi o, n)
  | i => decode cc pc = .ok (i, xlen i)
/-- what the tables say of an instruction -/
def xaux (cl : List vw_C) (Ts : List Cond) (MT : Nat → Option XM) (FT : Nat → Nat → Option FieldType) (FD : Nat → Option (List XV)) (TY : Nat → Option FieldType) (SV : List (String × String × String × Nat)) (NW : List (String × Nat × MethodName × String)) (NF : List (String × Nat × String × String × String × String)) (M : XM) (pc a b : Nat) (z : Int) : Instr → Prop
  | .iconst v => (Int32.ofInt v).toInt = z
  | .bipush v => ((Int8.ofInt v).toInt32).toInt = z
  | .sipush v => ((Int16.ofInt v).toInt32).toInt = z
  | .ldc j => ∃ v : Int32, Cond.constant (xm_y M).cls j v ∈ Ts ∧ v.toInt = z
  | .ldc_w j => ∃ v : Int32, Cond.constant (xm_y M).cls j v ∈ Ts ∧ v.toInt = z
  | .lconst v => (Int64.ofNat (v : Nat)).toInt = z
  | .ldc2_w j => ∃ v : Int64, Cond.constantLong (xm_y M).cls j v ∈ Ts ∧ v.toInt = z
  | .iinc _ g => (Int32.ofInt g).toInt = z
  | .ifCond _ o => (pc : Int) + o = (a : Int)
  | .if_icmp _ o => (pc : Int) + o = (a : Int)
  | .ifnull o => (pc : Int) + o = (a : Int)
  | .ifnonnull o => (pc : Int) + o = (a : Int)
  | .goto o => (pc : Int) + o = (a : Int)
  | .newarray t => ((t = .int ∧ a = 0) ∨ (t = .long ∧ a = 1) ∨ (t = .boolean ∧ a = 2)) ∧ TY a = some (newarray.typeOf t) ∧ Cond.arrayClass (newarray.typeOf t) ∈ Ts
  | .anewarray j => 3 ≤ a ∧ a < 7 ∧ ∃ C, TY a = some (.object C) ∧ Cond.classLink (xm_y M).cls j C ∈ Ts ∧ Cond.arrayOver (.object C) ∈ Ts
  | .new j => ∃ (C : String) (T : u_T) (N : Nat) (ty : Nat → FieldType) (fs : List XV) (fv : List Value), xclo cl Ts a C T N ty ∧ FD a = some fs ∧ fs.length = N ∧ (∀ as ex : List Nat, xl_in as ex fs fv) ∧ (∀ j, j < N → defaultValue (ty j) = vp_V fv j) ∧ Cond.classLink (xm_y M).cls j C ∈ Ts ∧ Cond.instantiable C N ∈ Ts ∧ Cond.initialized C ∈ Ts
  | .getfield j => ∃ (C : String) (T : u_T) (N : Nat) (ty : Nat → FieldType), xclo cl Ts a C T N ty ∧ b < N ∧ Cond.fieldLink (xm_y M).cls j (T b).1 (T b).2.1 (T b).2.2.1 ∈ Ts
  | .putfield j => ∃ (C : String) (T : u_T) (N : Nat) (ty : Nat → FieldType), xclo cl Ts a C T N ty ∧ b < N ∧ Cond.fieldLink (xm_y M).cls j (T b).1 (T b).2.1 (T b).2.2.1 ∈ Ts ∧ FT a b = some (ty b) ∧ ((T b).2.2.2 = false ∨ ((T b).2.2.2 = true ∧ (xm_y M).name = "<init>" ∧ (T b).1 = (xm_y M).cls))
  | .getstatic j => ∃ C n d, (C, n, d, a) ∈ SV ∧ (Cond.fieldLink (xm_y M).cls j C n d ∈ Ts ∨ ∃ h, ((xm_y M).cls, j, C, n, d, h) ∈ NF)
  | .invokevirtual j => ∃ (N : XM) (C : String), MT a = some N ∧ Cond.methodLink (xm_y M).cls j (xm_y N) ∈ Ts ∧ Cond.instanceMethod (xm_y N) ∈ Ts ∧ Cond.selects C (xm_y N) (xm_y N) ∈ Ts ∧ Cond.initialized C ∈ Ts ∧ Cond.code (xm_y N) (xm_c N) (xm_l N) (xm_r N) ∈ Ts ∧ ((xm_y N).cls = C ∧ (xm_y N).cls ≠ "java/lang/invoke/MethodHandle" ∧ (xm_y N).cls ≠ "java/lang/invoke/VarHandle" ∧ (parseMethodDescriptor (xm_y N).desc).map (fun d => d.parameters.length) = some (b - 1)) ∧ ∃ o : vw_C, cl[xm_i N]? = some o ∧ o.1 = C
  | .invokestatic j => ∃ N : XM, MT a = some N ∧ (Cond.methodLink (xm_y M).cls j (xm_y N) ∈ Ts ∨ ∃ h, ((xm_y M).cls, j, xm_y N, h) ∈ NW) ∧ Cond.static (xm_y N) ∈ Ts ∧ Cond.initialized (xm_y N).cls ∈ Ts ∧ Cond.code (xm_y N) (xm_c N) (xm_l N) (xm_r N) ∈ Ts ∧ ((xm_y N).cls ≠ "java/lang/invoke/MethodHandle" ∧ (xm_y N).cls ≠ "java/lang/invoke/VarHandle" ∧ (parseMethodDescriptor (xm_y N).desc).map (fun d => d.parameters.length) = some b)
  | .invokespecial j => (a = 9999 ∧ Cond.methodLink (xm_y M).cls j Lib.objectInit ∈ Ts ∧ Cond.instanceMethod Lib.objectInit ∈ Ts ∧ Cond.code Lib.objectInit ⟨#[0xb1]⟩ 1 none ∈ Ts) ∨ (a ≠ 9999 ∧ ∃ N : XM, MT a = some N ∧ (Cond.methodLink (xm_y M).cls j (xm_y N) ∈ Ts ∨ ∃ h, ((xm_y M).cls, j, xm_y N, h) ∈ NW) ∧ Cond.instanceMethod (xm_y N) ∈ Ts ∧ Cond.initialized (xm_y N).cls ∈ Ts ∧ Cond.code (xm_y N) (xm_c N) (xm_l N) (xm_r N) ∈ Ts ∧ ((xm_y N).cls ≠ "java/lang/invoke/MethodHandle" ∧ (xm_y N).cls ≠ "java/lang/invoke/VarHandle" ∧ (parseMethodDescriptor (xm_y N).desc).map (fun d => d.parameters.length) = some (b - 1)) ∧ (xm_y N).name = "<init>" ∧ xm_r N = none)
  | .ireturn => xrt .ireturn (xm_r M)
  | .lreturn => xrt .lreturn (xm_r M)
  | .areturn => xrt .areturn (xm_r M)
  | .return_ => xrt .return_ (xm_r M)
  | _ => True
theorem x_sl0 (k : Int64) : (0 : Int64) <<< k = 0 := by
  apply Int64.toBitVec_inj.mp
  simp
theorem x_sr0 (k : Int64) : (0 : Int64) >>> k = 0 := by
  apply Int64.toBitVec_inj.mp
  simp
theorem x_ur0 (k : UInt64) : ((0 : Int64).toUInt64 >>> k).toInt64 = 0 := by
  have h : (0 : Int64).toUInt64 = 0 := rfl
  rw [h]
  apply Int64.toBitVec_inj.mp
  simp
theorem xrecv_in {w : XW} {ci : Nat} {as ex : List Nat} {xs : List XV} {vals : List Value} (h : xrecv w ci xs = true) (hv : xl_in as ex xs vals) : ∃ (b : Nat) (As : List Value) (q : Nat) (fs : List XV), vals = .ref b :: As ∧ as[q]? = some b ∧ w[q]? = some (.inl (ci, fs)) := by
  match xs, h, hv with
  | .inr (.inr q) :: xs, h, hv =>
    obtain ⟨v, As, rfl, h1, _⟩ := hv
    have h : (q.1 == 1 && (match w[q.2]? with
      | some (.inl x) => x.1 == ci
      | _ => false)) = true := h
    rw [Bool.and_eq_true] at h
    have hq : q.1 = 1 := by simpa using h.1
    have h2 := h.2
    rcases h1 with ⟨h0, _⟩ | ⟨b, rfl, ⟨_, hb⟩ | ⟨h0, _⟩⟩
    · omega
    · cases hw : w[q.2]? with
      | none => rw [hw] at h2; cases h2
      | some o =>
        rw [hw] at h2
        match o, h2, hw with
        | .inl (c0, fs), h2, hw =>
          have h2 : c0 = ci := by simpa using h2
          subst h2
          exact ⟨b, As, q.2, fs, rfl, hb, hw⟩
        | .inr _, h2, _ => cases h2
    · omega
section XI
variable {p : Program} {l : Launch} {e : Env} {R : Room} {s : State} {m : MethodId} {args : Array Value} {below : List Frame} {meth : Method} {c : Code} {Q : State → Prop} {D : va_G} {cl : List vw_C} {tys : List (ClassId × FieldType)} {tA : Nat → ClassId} {A : Nat → Prop} {as0 ex : List Nat} {exc : List (List XV)} {pc : Nat} {lv : XL} {st : List XV} {w : XW} {k n : Nat} {r : XR} {Ts : List Cond} {SV : List (String × String × String × Nat)} {NW : List (String × Nat × MethodName × String)} {NF : List (String × Nat × String × String × String × String)} {cf : XF} {MT : Nat → Option XM} {FT : Nat → Nat → Option FieldType} {FD : Nat → Option (List XV)} {TY : Nat → Option FieldType} {TC : Nat → Option Nat} {M : XM} {i : Instr} {a b : Nat} {z : Int}
set_option maxHeartbeats 4000000 in
theorem xins_ok (hx : p.tables.exec = Jvm.exec) (hb : c.code = xm_c M) (hml : c.maxLocals = xm_l M) (hown : s.vm.findClass (xm_y M).cls = some m.cls) (hname : (xm_y M).name = "<init>" → meth.name = "<init>") (hts : ∀ w ∈ Ts, w.before args s = true) (hG : ∀ w ∈ Ts, (w.onTables && w.keeps) = true ∨ ∃ ty, w = .arrayClass ty) (hE : XEnv D cl tys ex exc SV NW NF A s) (hA : ∀ q, s.heap.size ≤ q → A q) (hRf : R.frames = xm_f M) (hRo : R.locals = xm_o M) (hRk : R.cells = xm_k M) (hRn : R.slots = xm_n M) (hT : xty tys tA) (hTY : ∀ t C, 3 ≤ t → t < 7 → TY t = some (.object C) → tys[t]? = some (tA t, .object C)) (hTC : ∀ t b, TC t = some b → 3 ≤ t ∧ t < 7 ∧ ∃ o : vw_C, cl[b]? = some o ∧ tys[t]? = some (tA t, .object o.1))
    (hcf : ∀ (j : Nat) (N : XM) (as : List XV) (w : XW) (ro : Option XV) (w' : XW), MT j = some N → cf j as w = some (ro, w') → XMet l D cl tys tA ex exc SV NW NF Ts N as w ro w')
    (od : xdec (xm_c M) pc i) (oa : xaux cl Ts MT FT FD TY SV NW NF M pc a b z i) (h : xins cf MT FT FD TY TC exc M i a b z pc lv st w k n = some r) (hr : XRs p l e R s m args below meth c Q (xm_c M) (xm_l M) D cl tA A as0 ex (xm_r M) r) : XSat p l e R s m args below meth c Q (xm_l M) D cl tA A as0 ex (pc, lv, st, w, k, n) := by
  have hK := hE.1
  have hX := hE.2.1
  have hGI : ∀ N : XM, Cond.code (xm_y N) (xm_c N) (xm_l N) (xm_r N) ∈ Ts → GoodIn Ts (xws Ts N) := fun N hc w hw => by
    rcases List.mem_cons.mp hw with rfl | hw
    · exact ⟨hc, hG _ hc⟩
    · exact ⟨hw, hG _ hw⟩
  have one : ∀ (v : Int32) (z : Int), v.toInt = z → ∀ as : List Nat, xv_in as ex (xi z) (.int v) := fun v z e0 as => ⟨v, rfl, by rw [e0]; exact Int.le_refl _, by rw [e0]; exact Int.le_refl _⟩
  have oneL : ∀ (v : Int64) (z : Int), v.toInt = z → ∀ as : List Nat, xv_in as ex (.inr (.inl (some z))) (.long v) := fun v z e0 as => ⟨v, rfl, fun y hy => by cases hy; exact e0⟩
  cases i with
  | iconst v => exact xo_push (one _ _ oa) h hr (fun H locs ls vs _ kk => lv_iconst hx hb od rfl kk)
  | bipush v => exact xo_push (one _ _ oa) h hr (fun H locs ls vs _ kk => lv_bipush hx hb od rfl kk)
  | sipush v => exact xo_push (one _ _ oa) h hr (fun H locs ls vs _ kk => lv_sipush hx hb od rfl kk)
  | ldc j =>
    obtain ⟨v, hv, hz⟩ := oa
    exact xo_push (one _ _ hz) h hr (fun H locs ls vs _ kk => lv_ldc hx hb hown (hts _ hv) od kk)
  | ldc_w j =>
    obtain ⟨v, hv, hz⟩ := oa
    exact xo_push (one _ _ hz) h hr (fun H locs ls vs _ kk => lv_ldcw hx hb hown (hts _ hv) od kk)
  | lconst v => exact xo_push (oneL _ _ oa) h hr (fun H locs ls vs _ kk => lv_lconst hx hb od rfl kk)
  | ldc2_w j =>
    obtain ⟨v, hv, hz⟩ := oa
    exact xo_push (oneL _ _ hz) h hr (fun H locs ls vs _ kk => lv_ldc2 hx hb hown (hts _ hv) od kk)
  | aconst_null => exact xo_push (v := .inr (.inr (0, 0))) (val := .null) (fun _ => Or.inl ⟨rfl, rfl⟩) h hr (fun H locs ls vs _ kk => lv_null hx hb od kk)
  | iload_n j => exact xo_load h hr (fun v H locs ls vs hk hl kk => by obtain ⟨x, rfl⟩ := hk; exact lv_iload_n hx hb od rfl hl kk)
  | iload j => exact xo_load h hr (fun v H locs ls vs hk hl kk => by obtain ⟨x, rfl⟩ := hk; exact lv_iload hx hb od hl kk)
  | lload_n j => exact xo_load h hr (fun v H locs ls vs hk hl kk => by obtain ⟨x, rfl⟩ := hk; exact lv_lload_n hx hb od rfl hl kk)
  | lload j => exact xo_load h hr (fun v H locs ls vs hk hl kk => by obtain ⟨x, rfl⟩ := hk; exact lv_lload hx hb od hl kk)
  | aload_n j =>
    exact xo_load h hr (fun v H locs ls vs hk hl kk => by
      rcases hk with rfl | ⟨x, rfl⟩
      · exact lv_aload_nN hx hb od rfl hl kk
      · exact lv_aload_n hx hb od rfl hl kk)
  | aload j =>
    exact xo_load h hr (fun v H locs ls vs hk hl kk => by
      rcases hk with rfl | ⟨x, rfl⟩
      · exact lv_aloadN hx hb od hl kk
      · exact lv_aload hx hb od hl kk)
  | istore_n j => exact xo_store h hr (fun v H locs ls vs lw hk hl hj kk => by obtain ⟨x, rfl⟩ := hk; exact lv_istore_n hx hb od rfl hl hj rfl kk)
  | istore j => exact xo_store h hr (fun v H locs ls vs lw hk hl hj kk => by obtain ⟨x, rfl⟩ := hk; exact lv_istore hx hb od hl hj rfl kk)
  | lstore_n j => exact xo_store2 h hr (fun v H locs ls vs lw hk hl hj kk => by obtain ⟨x, rfl⟩ := hk; exact lv_lstore_n hx hb od rfl hl hj rfl kk)
  | lstore j => exact xo_store2 h hr (fun v H locs ls vs lw hk hl hj kk => by obtain ⟨x, rfl⟩ := hk; exact lv_lstore hx hb od hl hj rfl kk)
  | astore_n j =>
    exact xo_store h hr (fun v H locs ls vs lw hk hl hj kk => by
      rcases hk with rfl | ⟨x, rfl⟩
      · exact lv_astore_nN hx hb od rfl hl hj rfl kk
      · exact lv_astore_n hx hb od rfl hl hj rfl kk)
  | astore j =>
    exact xo_store h hr (fun v H locs ls vs lw hk hl hj kk => by
      rcases hk with rfl | ⟨x, rfl⟩
      · exact lv_astoreN hx hb od hl hj rfl kk
      · exact lv_astore hx hb od hl hj rfl kk)
  | iinc j g => exact xo_iinc hx hb od oa h hr
  | iadd => exact xo_bin xadd_in h hr (fun x y H locs ls vs kk => lv_iadd hx hb od kk)
  | isub => exact xo_bin xsub_in h hr (fun x y H locs ls vs kk => lv_isub hx hb od kk)
  | imul => exact xo_bin (xe2_in _) h hr (fun x y H locs ls vs kk => lv_imul hx hb od kk)
  | iand => exact xo_bin (xe2_in _) h hr (fun x y H locs ls vs kk => lv_iand hx hb od kk)
  | ior => exact xo_bin (xe2_in _) h hr (fun x y H locs ls vs kk => lv_ior hx hb od kk)
  | ixor => exact xo_bin (xe2_in _) h hr (fun x y H locs ls vs kk => lv_ixor hx hb od kk)
  | ishl => exact xo_bin (xe2_in _) h hr (fun x y H locs ls vs kk => lv_ishl hx hb od kk)
  | ishr => exact xo_bin (xe2_in _) h hr (fun x y H locs ls vs kk => lv_ishr hx hb od kk)
  | iushr => exact xo_bin (xe2_in _) h hr (fun x y H locs ls vs kk => lv_iushr hx hb od rfl kk)
  | idiv => exact xo_div (xe2_in _) h hr (fun x y H locs ls vs hy kk => lv_idiv hx hb od hy kk)
  | irem => exact xo_div (xe2_in _) h hr (fun x y H locs ls vs hy kk => lv_irem hx hb od hy kk)
  | ineg => exact xo_un h hr (fun x H locs ls vs kk => lv_ineg hx hb od kk)
  | i2b => exact xo_un h hr (fun x H locs ls vs kk => lv_i2b hx hb od rfl kk)
  | lneg => exact xo_lneg h hr (fun x H locs ls vs kk => lv_lneg hx hb od kk)
  | ladd => exact xo_lbin h hr (fun x y H locs ls vs kk => lv_ladd hx hb od kk)
  | lsub => exact xo_lbin h hr (fun x y H locs ls vs kk => lv_lsub hx hb od kk)
  | lmul => exact xo_lbin h hr (fun x y H locs ls vs kk => lv_lmul hx hb od kk)
  | land => exact xo_lbin h hr (fun x y H locs ls vs kk => lv_land hx hb od kk)
  | lor => exact xo_lbin h hr (fun x y H locs ls vs kk => lv_lor hx hb od kk)
  | lxor => exact xo_lbin h hr (fun x y H locs ls vs kk => lv_lxor hx hb od kk)
  | lshl => exact xo_lsh (g := fun x y => x <<< (y.toInt64 &&& 63)) (fun _ => x_sl0 _) h hr (fun x y H locs ls vs kk => lv_lshl hx hb od rfl kk)
  | lshr => exact xo_lsh (g := fun x y => x >>> (y.toInt64 &&& 63)) (fun _ => x_sr0 _) h hr (fun x y H locs ls vs kk => lv_lshr hx hb od rfl kk)
  | lushr => exact xo_lsh (g := fun x y => (x.toUInt64 >>> (y.toInt64.toUInt64 &&& Int64.toUInt64 63)).toInt64) (fun _ => x_ur0 _) h hr (fun x y H locs ls vs kk => lv_lushr hx hb od rfl kk)
  | i2l => exact xo_i2l h hr (fun x H locs ls vs kk => lv_i2l hx hb od rfl kk)
  | l2i => exact xo_l2i h hr (fun x H locs ls vs kk => lv_l2i hx hb od rfl kk)
  | lcmp => exact xo_lcmp h hr (fun x y H locs ls vs kk => W.lcmp hx hb od kk)
  | dup => exact xo_dup h hr (fun v H locs ls vs hv kk => lv_dup hx hb od hv kk)
  | dup2 => exact xo_dup2 hx hb od h hr
  | ifCond q o => exact xo_if hx hb od oa h hr
  | if_icmp q o => exact xo_icmp hx hb od oa h hr
  | ifnull o => exact xo_ifnull hx hb od oa h hr
  | ifnonnull o => exact xo_ifnonnull hx hb od oa h hr
  | goto o =>
    cases h
    intro H locs ls vs lw ws hat
    exact lv_goto hx hb od oa (hr H locs ls vs lw ws hat)
  | tableswitch d lo hi offs =>
    obtain ⟨len, od⟩ := od
    exact xo_table hx hb od h hr
  | iaload => exact xo_ald (Or.inl ⟨rfl, rfl, rfl⟩) hx hb od hK hT hX h hr
  | laload => exact xo_ald (Or.inr (Or.inl ⟨rfl, rfl, rfl⟩)) hx hb od hK hT hX h hr
  | baload => exact xo_ald (Or.inr (Or.inr (Or.inl ⟨rfl, rfl, rfl⟩))) hx hb od hK hT hX h hr
  | aaload => exact xo_ald (Or.inr (Or.inr (Or.inr ⟨rfl, rfl, rfl⟩))) hx hb od hK hT hX h hr
  | iastore => exact xo_ast (Or.inl ⟨rfl, rfl, rfl⟩) (fun e0 => by omega) hx hb od hK hT h hr
  | lastore => exact xo_ast (Or.inr (Or.inl ⟨rfl, rfl, rfl⟩)) (fun e0 => by omega) hx hb od hK hT h hr
  | bastore =>
    match st, h with
    | x :: st, h =>
      have h : (if xbool x = true then xh_ast 2 0 pc lv (x :: st) w k n else none) = some r := h
      by_cases hz : xbool x = true
      · rw [if_pos hz] at h
        exact xo_ast (Or.inr (Or.inr ⟨rfl, rfl, rfl⟩)) (fun _ y st' e0 => by cases e0; exact hz) hx hb od hK hT h hr
      · rw [if_neg hz] at h
        cases h
  | aastore => exact xo_aast hTC hx hb od hK h hr
  | arraylength => exact xo_alen hx hb od hK hT hX h hr
  | newarray t =>
    obtain ⟨o1, o2, o3⟩ := oa
    have h : xh_newa 2 a (TY a) R.cells R.slots pc lv st w k n = some r := by rw [hRk, hRn]; exact h
    exact xo_newa o1 (hts _ o3) hx hb od hK hT hA o2 h hr
  | anewarray j =>
    obtain ⟨o1, o2, C, o3, o4, o5⟩ := oa
    have h : xh_newa 3 a (TY a) R.cells R.slots pc lv st w k n = some r := by rw [hRk, hRn]; exact h
    exact xo_newq o1 o2 (hTY a C o1 o2 o3) hown (hts _ o4) (hts _ o5) hx hb od hK hA o3 h hr
  | new j =>
    obtain ⟨C, T, N, ty, fs, fv, o1, o2, o3, o4, o5, o6, o7, o8⟩ := oa
    have h : xh_new a (FD a) R.cells R.slots pc lv st w k n = some r := by rw [hRk, hRn]; exact h
    exact xo_new o1 o3 (fun as => o4 as ex) o5 hts hown (hts _ o6) (hts _ o7) (hts _ o8) hx hb od hK hA o2 h hr
  | getfield j =>
    obtain ⟨C, T, N, ty, o1, o2, o3⟩ := oa
    exact xo_get o1 o2 hts hown (hts _ o3) hx hb od hK h hr
  | putfield j =>
    obtain ⟨C, T, N, ty, o1, o2, o3, o4, o5⟩ := oa
    exact xo_put o1 o2 (o5.imp id (fun q => ⟨q.1, hname q.2.1, q.2.2⟩)) hts hown (hts _ o3) hx hb od hK o4 h hr
  | getstatic j =>
    obtain ⟨C, n0, d0, o1, o2⟩ := oa
    obtain ⟨a', ha, hZ⟩ := hE.2.2.1 _ o1
    refine xo_push (v := .inr (.inr (2, a))) (val := .ref a') (fun _ => Or.inr ⟨a', rfl, Or.inr ⟨rfl, ha⟩⟩) h hr (fun H locs ls vs hS kk => ?_)
    rcases o2 with o2 | ⟨h0, o2⟩
    · exact va_gets hx hb hZ hS hown (hts _ o2) (fun _ h9 => h9) od kk
    · exact va_getsN hx hb hZ hS hown (va_Nw.use rfl (hE.2.2.2.2 _ o2)) (fun _ h9 => h9) od kk
  | invokevirtual j =>
    obtain ⟨N, C, o1, o2, o3, o4, o5, o6, o7, o, o8, o9⟩ := oa
    have h : xh_call cf M (MT a) a b true pc lv st w k n = some r := h
    rw [o1] at h
    refine xo_call hE hA hRf hRo hRk hRn (fun as w ro w' hc => hcf a N as w ro w' o1 hc) (fun ro w' vals rest ws H locs ls e1 e2 e3 e4 e5 e6 e7 e8 e9 hM hp => ?_) h hr
    obtain ⟨b0, As, q, fs, rfl, g1, g2⟩ := xrecv_in (by simpa using e6) e3
    obtain ⟨e0, g3, fv, rfl, g4⟩ := e4.at g2 g1
    have hst : (Value.ref b0 :: As).reverse ++ rest = As.reverse ++ .ref b0 :: rest := by rw [List.reverse_cons, List.append_assoc]; rfl
    rw [hst] at e9 ⊢
    have hgood : GoodIn Ts (wsV (xm_y M).cls j C (xm_y N) (xws Ts N)) := fun w hw => by
      unfold wsV at hw
      rcases List.mem_append.mp hw with hw | hw
      · have hm : w ∈ Ts := by
          simp only [List.mem_cons, List.mem_nil_iff, or_false] at hw
          rcases hw with rfl | rfl | rfl | rfl
          · exact o2
          · exact o3
          · exact o4
          · exact o5
        exact ⟨hm, hG _ hm⟩
      · exact hGI N o6 w hw
    exact va_runV ⟨hx, hb, hml, hown, hts⟩ hM (cwV (b - 1) hts hgood rfl rfl rfl o7 e7) ⟨hp.1, by
      have := va_recv hK e5 (ci := xm_i N) (q0 := q) o8 g3
      rw [o9] at this
      exact this, hp.2⟩ rfl (by simp at e1; omega) e2 rfl e9 od e8
  | invokestatic j =>
    obtain ⟨N, o1, o2, o3, o4, o5, o6⟩ := oa
    have h : xh_call cf M (MT a) a b false pc lv st w k n = some r := h
    rw [o1] at h
    refine xo_call hE hA hRf hRo hRk hRn (fun as w ro w' hc => hcf a N as w ro w' o1 hc) (fun ro w' vals rest ws H locs ls e1 e2 e3 e4 e5 e6 e7 e8 e9 hM hp => ?_) h hr
    rcases o2 with o2 | ⟨h0, o2⟩
    · have hgood : GoodIn Ts (va_wsS (xm_y M).cls j (xm_y N) (xws Ts N)) := fun w hw => by
        unfold va_wsS at hw
        rcases List.mem_append.mp hw with hw | hw
        · have hm : w ∈ Ts := by
            simp only [List.mem_cons, List.mem_nil_iff, or_false] at hw
            rcases hw with rfl | rfl | rfl
            · exact o2
            · exact o3
            · exact o4
          exact ⟨hm, hG _ hm⟩
        · exact hGI N o5 w hw
      exact va_runS ⟨hx, hb, hml, hown, hts⟩ hM (va_cwS b hts hgood rfl rfl rfl o6 e7) hp rfl e1 e2 rfl e9 od e8
    · exact va_runSN ⟨hx, hb, hml, hown, hts⟩ hM ⟨va_cnB b hts (hGI N o5) rfl rfl rfl (hE.2.2.2.1 _ o2) (hts _ o4) o6 e7, hts _ o3, trivial⟩ hp rfl e1 e2 rfl e9 od e8
  | invokespecial j =>
    have h : (if a = 9999 then xh_oinit M pc lv st w k n else xh_call cf M (MT a) a b true pc lv st w k n) = some r := h
    rcases oa with ⟨o1, o2, o3, o4⟩ | ⟨o0, N, o1, o2, o3, o4, o5, o6, o7, o8⟩
    · rw [if_pos o1] at h
      exact xo_oinit hRf hRo hml hown (hts _ o2) (hts _ o3) (hts _ o4) hx hb od h hr
    · rw [if_neg o0, o1] at h
      refine xo_call hE hA hRf hRo hRk hRn (fun as w ro w' hc => hcf a N as w ro w' o1 hc) (fun ro w' vals rest ws H locs ls e1 e2 e3 e4 e5 e6 e7 e8 e9 hM hp => ?_) h hr
      obtain ⟨b0, As, q, fs, rfl, g1, g2⟩ := xrecv_in (by simpa using e6) e3
      have hst : (Value.ref b0 :: As).reverse ++ rest = As.reverse ++ .ref b0 :: rest := by rw [List.reverse_cons, List.append_assoc]; rfl
      rw [hst] at e9 ⊢
      have hw1 : xws Ts N = Cond.code (xm_y N) (xm_c N) (xm_l N) none :: Ts := by unfold xws; rw [o8]
      rcases o2 with o2 | ⟨h0, o2⟩
      · exact va_runI ⟨hx, hb, hml, hown, hts⟩ hM (cwI (b - 1) hts (hGI N o5) hw1 rfl rfl (hts _ o4) (hts _ o2) (hts _ o3) o7 o6 e7) hp rfl (by simp at e1; omega) e2 rfl e9 od e8
      · exact va_runIN ⟨hx, hb, hml, hown, hts⟩ hM ⟨va_cnB (b - 1) hts (hGI N o5) hw1 rfl rfl (hE.2.2.2.1 _ o2) (hts _ o4) o6 e7, o7, hts _ o3⟩ hp rfl (by simp at e1; omega) e2 rfl e9 od e8
  | ireturn =>
    match st, h with
    | [x], h =>
      have h : (if xkd x = 0 ∧ (!xz (xm_r M) || xbool x) = true then some (Sum.inr (some x, w, k, n)) else none) = some r := h
      by_cases hq : xkd x = 0 ∧ (!xz (xm_r M) || xbool x) = true
      · rw [if_pos hq] at h
        cases h
        intro H locs ls vs lw ws ⟨h1, h2, h3, h4, h5, h6, h7, h8⟩
        obtain ⟨v, _, rfl, hv, rfl⟩ := h2
        have hk := hv.vk
        rw [hq.1] at hk
        obtain ⟨y, rfl⟩ := hk
        exact hr pc .ireturn H locs ls (some (.int y)) ws od oa ⟨y, rfl⟩ ⟨_, rfl, hv⟩ (fun hz x' e0 => by
          cases e0
          have hb2 := hq.2
          rw [hz] at hb2
          exact x_bool01 (by simpa using hb2) hv) h3 h4 h5 h6 h8
      · rw [if_neg hq] at h
        cases h
  | lreturn =>
    match st, h with
    | [x], h =>
      have h : (if xkd x = 1 ∧ (!xz none || xbool x) = true then some (Sum.inr (some x, w, k, n)) else none) = some r := h
      by_cases hq : xkd x = 1 ∧ (!xz none || xbool x) = true
      · rw [if_pos hq] at h
        cases h
        intro H locs ls vs lw ws ⟨h1, h2, h3, h4, h5, h6, h7, h8⟩
        obtain ⟨v, _, rfl, hv, rfl⟩ := h2
        have hk := hv.vk
        rw [hq.1] at hk
        obtain ⟨y, rfl⟩ := hk
        exact hr pc .lreturn H locs ls (some (.long y)) ws od oa ⟨y, rfl⟩ ⟨_, rfl, hv⟩ (fun hz x' e0 => by cases e0) h3 h4 h5 h6 h8
      · rw [if_neg hq] at h
        cases h
  | areturn =>
    match st, h with
    | [x], h =>
      have h : (if xkd x = 2 ∧ (!xz none || xbool x) = true then some (Sum.inr (some x, w, k, n)) else none) = some r := h
      by_cases hq : xkd x = 2 ∧ (!xz none || xbool x) = true
      · rw [if_pos hq] at h
        cases h
        intro H locs ls vs lw ws ⟨h1, h2, h3, h4, h5, h6, h7, h8⟩
        obtain ⟨v, _, rfl, hv, rfl⟩ := h2
        have hk := hv.vk
        rw [hq.1] at hk
        refine hr pc .areturn H locs ls (some v) ws od oa ?_ ⟨_, rfl, hv⟩ (fun hz x' e0 => ?_) h3 h4 h5 h6 h8
        · rcases hk with rfl | ⟨y, rfl⟩
          · exact Or.inl rfl
          · exact Or.inr ⟨y, rfl⟩
        · rcases hk with rfl | ⟨y, rfl⟩ <;> cases e0
      · rw [if_neg hq] at h
        cases h
  | return_ =>
    match st, h with
    | [], h =>
      have h : some (Sum.inr (none, w, k, n)) = some r := h
      cases h
      intro H locs ls vs lw ws ⟨h1, h2, h3, h4, h5, h6, h7, h8⟩
      have h2 : vs = [] := h2
      subst h2
      exact hr pc .return_ H locs ls none ws od oa rfl rfl (fun hz x' e0 => by cases e0) h3 h4 h5 h6 h8
  | _ => exact nomatch (show (none : Option XR) = some r from h)
end XI
def xstep (cf : XF) (MT : Nat → Option XM) (FT : Nat → Nat → Option FieldType) (FD : Nat → Option (List XV)) (TY : Nat → Option FieldType) (TC : Nat → Option Nat) (exc : List (List XV)) (M : XM) (S : XS) : Option XR := match xfetch (xm_t M) S.1 with
  | some q => xins cf MT FT FD TY TC exc M q.1 q.2.1 q.2.2.1 q.2.2.2 S.1 S.2.1 S.2.2.1 S.2.2.2.1 S.2.2.2.2.1 S.2.2.2.2.2
  | none => none
def xrun (f : XS → Option XR) : Nat → XS → Option XR
  | 0, S => f S
  | n + 1, S => match xrun f n S with
    | some (.inl S') => xrun f n S'
    | some (.inr q) => some (.inr q)
    | none => none
def xcall (MT : Nat → Option XM) (FT : Nat → Nat → Option FieldType) (FD : Nat → Option (List XV)) (TY : Nat → Option FieldType) (TC : Nat → Option Nat) (exc : List (List XV)) (ov : XF) (fu : Nat) : Nat → XF
  | 0, _, _, _ => none
  | d + 1, j, as, w => match ov j as w with
    | some q => some q
    | none => match MT j with
      | none => none
      | some N => if (as.map xcat).sum ≤ xm_l N then (match xrun (xstep (xcall MT FT FD TY TC exc ov fu d) MT FT FD TY TC exc N) fu (0, xk_args 0 as, [], w, 0, 0) with
        | some (.inr q) => if q.2.2.1 ≤ xm_k N ∧ q.2.2.2 ≤ xm_n N then some (q.1, q.2.1) else none
        | _ => none) else none
theorem xrun_ok {f : XS → Option XR} {P : XR → Prop} (hf : ∀ S r, f S = some r → P r → P (.inl S)) : ∀ (n : Nat) (S : XS) (r : XR), xrun f n S = some r → P r → P (.inl S)
  | 0, S, r, h, hr => hf S r h hr
  | n + 1, S, r, h, hr => by
    unfold xrun at h
    cases h1 : xrun f n S with
    | none => rw [h1] at h; cases h
    | some q =>
      rw [h1] at h
      match q, h, h1 with
      | .inl S', h, h1 => exact xrun_ok hf n S _ h1 (xrun_ok hf n S' r h hr)
      | .inr q, h, h1 =>
        cases h
        exact xrun_ok hf n S _ h1 hr
theorem x_lgsl : ∀ (vs : List Value), (lg_sl vs).length = (vs.map fun v => v.category).sum
  | [] => rfl
  | v :: vs => by
    have ih := x_lgsl vs
    rcases lv_cat v with h | h
    · simp [lg_sl, h] at ih ⊢
      omega
    · simp [lg_sl, h] at ih ⊢
      omega
set_option maxHeartbeats 4000000 in
theorem xcall_met {l : Launch} {D : va_G} {cl : List vw_C} {tys : List (ClassId × FieldType)} {tA : Nat → ClassId} {ex : List Nat} {exc : List (List XV)} {Ts : List Cond} {SV : List (String × String × String × Nat)} {NW : List (String × Nat × MethodName × String)} {NF : List (String × Nat × String × String × String × String)} {MT : Nat → Option XM} {FT : Nat → Nat → Option FieldType} {FD : Nat → Option (List XV)} {TY : Nat → Option FieldType} {TC : Nat → Option Nat} {ov : XF} {fu : Nat} (hG : ∀ w ∈ Ts, (w.onTables && w.keeps) = true ∨ ∃ ty, w = .arrayClass ty) (hT : xty tys tA) (hTY : ∀ t C, 3 ≤ t → t < 7 → TY t = some (.object C) → tys[t]? = some (tA t, .object C)) (hTC : ∀ t b, TC t = some b → 3 ≤ t ∧ t < 7 ∧ ∃ o : vw_C, cl[b]? = some o ∧ tys[t]? = some (tA t, .object o.1))
    (hok : ∀ j N, MT j = some N → plainName (xm_y N).cls = true ∧ ∀ pc q, xfetch (xm_t N) pc = some q → xdec (xm_c N) pc q.1 ∧ xaux cl Ts MT FT FD TY SV NW NF N pc q.2.1 q.2.2.1 q.2.2.2 q.1)
    (hov : ∀ (j : Nat) (N : XM) (as : List XV) (w : XW) (ro : Option XV) (w' : XW), MT j = some N → ov j as w = some (ro, w') → XMet l D cl tys tA ex exc SV NW NF Ts N as w ro w') :
    ∀ (d j : Nat) (N : XM) (as : List XV) (w : XW) (ro : Option XV) (w' : XW), MT j = some N → xcall MT FT FD TY TC exc ov fu d j as w = some (ro, w') → XMet l D cl tys tA ex exc SV NW NF Ts N as w ro w' := by
  intro d
  induction d with
  | zero => intro j N as w ro w' _ h; cases h
  | succ d ih =>
    intro j N as w ro w' hN h
    unfold xcall at h
    cases ho : ov j as w with
    | some q =>
      rw [ho] at h
      cases h
      exact hov j N as w ro w' hN ho
    | none =>
      rw [ho, hN] at h
      dsimp only at h
      by_cases hc : (as.map xcat).sum ≤ xm_l N
      · rw [if_pos hc] at h
        cases hrun : xrun (xstep (xcall MT FT FD TY TC exc ov fu d) MT FT FD TY TC exc N) fu (0, xk_args 0 as, [], w, 0, 0) with
        | none => rw [hrun] at h; cases h
        | some q =>
          rw [hrun] at h
          match q, h, hrun with
          | .inl _, h, _ => cases h
          | .inr (ro', w2, k2, n2), h, hrun =>
            dsimp only at h
            by_cases hcap : k2 ≤ xm_k N ∧ n2 ≤ xm_n N
            · rw [if_pos hcap] at h
              cases h
              intro vals ws sz hvals hws
              refine Met.ofW (cc := xm_c N) (maxL := xm_l N) (ret := xm_r N) (hok j N hN).1 rfl ?_
              intro p e s m args below meth c s₁ B hml hv
              obtain ⟨rfl, hsz, hP, hD0, hE⟩ := hv
              have hx := B.exec
              have hb := B.bytes
              have hr := B.returns
              have hts0 := atoms_spec (ws := xws Ts N) B.pre
              have hts : ∀ w ∈ Ts, w.before vals.toArray s = true := fun w h => hts0 w (List.mem_cons_of_mem _ h)
              have hown : s.vm.findClass (xm_y N).cls = some m.cls := findClass_of_methodNamed B.named
              have hname : (xm_y N).name = "<init>" → meth.name = "<init>" := fun h => (name_of_methodNamed B.named B.method).1.trans h
              have hlocks := B.notSynchronized
              subst hsz
              have hD := hD0.self (sz := s.heap.size)
              have hA : ∀ q : Nat, s.heap.size ≤ q → va_A ws s.heap.size q := fun q h => Or.inr h
              have hl := lv_entry vals (n := xm_l N) (by rw [x_lgsl, hvals.cats]; exact hc)
              rw [lg_entry_eq]
              have key := xrun_ok (P := XRs p l e (headSpec (xws Ts N) (xrm N)).room s m vals.toArray below meth c (MQ below (XQ D cl tA ex ro w' ws s.heap.size) vals.toArray s (xm_k N) (xm_n N) (va_A ws s.heap.size)) (xm_c N) (xm_l N) D cl tA (va_A ws s.heap.size) (xad ws) ex (xm_r N)) (fun S r hS hR => by
                unfold xstep at hS
                cases hf : xfetch (xm_t N) S.1 with
                | none => rw [hf] at hS; cases hS
                | some q =>
                  rw [hf] at hS
                  obtain ⟨od, oa⟩ := (hok j N hN).2 S.1 q hf
                  exact xins_ok hx hb hml hown hname hts hG hE hA rfl rfl rfl rfl hT hTY hTC (fun j N as w ro w' => ih j N as w ro w') od oa hS hR) fu _ _ hrun ?_
              · exact key s.heap [] _ [] (lv_args 0 vals) ws ⟨xk_in.args 0 hvals, rfl, hws, hP, hD, va_S.rf, hl, [], by simp⟩
              · intro pc i H locs ls rv ws' hd hrt hrk ho hz hw hP hD hS htl
                refine W.widen hcap.1 hcap.2 ?_
                have fin : ∀ (o : Option Value), o = rv → ∀ t : State, t.heap = H → s.WarmedH t.vm → XQ D cl tA ex ro w' ws s.heap.size vals.toArray s (.returned o) t := fun o e0 t ht _ => ⟨⟨rv, ws', by rw [e0], ho, by rw [ht]; exact hP, hD, hw, htl⟩, hS.F ht⟩
                cases i with
                | ireturn =>
                  obtain ⟨x, rfl⟩ := hrk
                  rcases hrt with h0 | h0
                  · exact W.iret (v := x) hx hb (hr.trans h0) (fin _ rfl) hS.2.2 hd
                  · exact W.zret (v := x) (ty := .boolean) hx hb (hr.trans h0) (by rcases hz (by rw [h0]; rfl) x rfl with rfl | rfl <;> decide +kernel) (fin _ rfl) hS.2.2 hd
                | lreturn =>
                  obtain ⟨x, rfl⟩ := hrk
                  exact W.lret (v := x) hx hb (hr.trans hrt) (fin _ rfl) hS.2.2 hd
                | areturn =>
                  obtain ⟨C, hrt⟩ := hrt
                  rcases hrk with rfl | ⟨x, rfl⟩
                  · exact W.aret (v := .null) hx hb (hr.trans hrt) (Or.inl ⟨C, rfl⟩) (Or.inl rfl) (fin _ rfl) hS.2.2 hd
                  · exact W.aret (v := .ref x) hx hb (hr.trans hrt) (Or.inl ⟨C, rfl⟩) (Or.inr ⟨x, rfl⟩) (fin _ rfl) hS.2.2 hd
                | return_ =>
                  have hrk : rv = none := hrk
                  subst hrk
                  exact W.vret hx hb (hr.trans hrt) (fin _ rfl) hS.2.2 hd
                | _ => exact absurd hrk id
            · rw [if_neg hcap] at h
              cases h
      · rw [if_neg hc] at h
        cases h
end
