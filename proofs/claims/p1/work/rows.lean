section
/-! ===== a machine of bounds: ints between bounds, longs exact or any, references by the places of their cells ===== -/
abbrev XV : Type := (Int × Int) ⊕ (Option Int) ⊕ (Nat × Nat)
abbrev XL : Type := List (Nat × XV)
abbrev XC : Type := (Nat × List XV) ⊕ (Nat × List XV)
abbrev XW : Type := List XC
abbrev XE : Type := Instr × Nat × Nat × Int
abbrev XS : Type := Nat × XL × List XV × XW × Nat × Nat
abbrev XR : Type := XS ⊕ (Option XV × XW × Nat × Nat)
/-- a method: its name, code, locals, answer, room (frames, locals), cells and slots that it may make, its class's number, its instructions -/
abbrev XM : Type := MethodName × ByteArray × Nat × Option FieldType × Nat × Nat × Nat × Nat × Nat × List (List (Option XE))
abbrev xm_y (M : XM) : MethodName := M.1
abbrev xm_c (M : XM) : ByteArray := M.2.1
abbrev xm_l (M : XM) : Nat := M.2.2.1
abbrev xm_r (M : XM) : Option FieldType := M.2.2.2.1
abbrev xm_f (M : XM) : Nat := M.2.2.2.2.1
abbrev xm_o (M : XM) : Nat := M.2.2.2.2.2.1
abbrev xm_k (M : XM) : Nat := M.2.2.2.2.2.2.1
abbrev xm_n (M : XM) : Nat := M.2.2.2.2.2.2.2.1
abbrev xm_i (M : XM) : Nat := M.2.2.2.2.2.2.2.2.1
abbrev xm_t (M : XM) : List (List (Option XE)) := M.2.2.2.2.2.2.2.2.2
abbrev XF : Type := Nat → List XV → XW → Option (Option XV × XW)
def xi (z : Int) : XV := .inl (z, z)
def xtop : Int × Int := (-2147483648, 2147483647)
def xcat : XV → Nat
  | .inl _ => 1
  | .inr (.inl _) => 2
  | .inr (.inr _) => 1
def xkd : XV → Nat
  | .inl _ => 0
  | .inr (.inl _) => 1
  | .inr (.inr _) => 2
def xk_get : XL → Nat → Option XV
  | [], _ => none
  | q :: l, i => if q.1 = i then some q.2 else xk_get l i
def xk_set1 (l : XL) (i : Nat) (v : XV) : XL := (i, v) :: l.filter (fun q => !(q.1 == i) && !(q.1 + 1 == i && xcat q.2 == 2))
def xk_set2 (l : XL) (i : Nat) (v : XV) : XL := (i, v) :: l.filter (fun q => !(q.1 == i) && (!(q.1 == i + 1) && !(q.1 + 1 == i && xcat q.2 == 2)))
def xk_args : Nat → List XV → XL
  | _, [] => []
  | i, v :: vs => (i, v) :: xk_args (if xcat v = 2 then i + 2 else i + 1) vs
-- numbers
def xe2 (f : Int32 → Int32 → Int32) (p q : Int × Int) : Int × Int := if p.1 = p.2 ∧ q.1 = q.2 then ((f (Int32.ofInt p.1) (Int32.ofInt q.1)).toInt, (f (Int32.ofInt p.1) (Int32.ofInt q.1)).toInt) else xtop
def xe1 (f : Int32 → Int32) (p : Int × Int) : Int × Int := if p.1 = p.2 then ((f (Int32.ofInt p.1)).toInt, (f (Int32.ofInt p.1)).toInt) else xtop
def xadd (p q : Int × Int) : Int × Int := if -2147483648 ≤ p.1 + q.1 ∧ p.2 + q.2 ≤ 2147483647 then (p.1 + q.1, p.2 + q.2) else xe2 (fun x y => x + y) p q
def xsub (p q : Int × Int) : Int × Int := if -2147483648 ≤ p.1 - q.2 ∧ p.2 - q.1 ≤ 2147483647 then (p.1 - q.2, p.2 - q.1) else xe2 (fun x y => x - y) p q
def xl2 (f : Int64 → Int64 → Int64) : Option Int → Option Int → Option Int
  | some a, some b => some (f (Int64.ofInt a) (Int64.ofInt b)).toInt
  | _, _ => none
def xls (f : Int64 → Int32 → Int64) : Option Int → Int × Int → Option Int
  | some a, q => if q.1 = q.2 then some (f (Int64.ofInt a) (Int32.ofInt q.1)).toInt else if a = 0 then some 0 else none
  | none, _ => none
def xlt (p q : Int × Int) : Option Bool := if p.2 < q.1 then some true else if q.2 ≤ p.1 then some false else none
def xeq (p q : Int × Int) : Option Bool := if p.1 = p.2 ∧ q.1 = q.2 ∧ p.1 = q.1 then some true else if p.2 < q.1 ∨ q.2 < p.1 then some false else none
def xno : Option Bool → Option Bool
  | some true => some false
  | some false => some true
  | none => none
def xcmp : ClassFile.Cond → Int × Int → Int × Int → Option Bool
  | .eq, p, q => xeq p q
  | .ne, p, q => xno (xeq p q)
  | .lt, p, q => xlt p q
  | .ge, p, q => xno (xlt p q)
  | .gt, p, q => xlt q p
  | .le, p, q => xno (xlt q p)
-- arrays
def xh2 : XV → XV → Option XV
  | .inl p, .inl q => some (.inl (if p.1 ≤ q.1 then p.1 else q.1, if p.2 ≤ q.2 then q.2 else p.2))
  | .inr (.inl a), .inr (.inl b) => some (.inr (.inl (if a = b then a else none)))
  | .inr (.inr a), .inr (.inr b) => if a = b then some (.inr (.inr a)) else none
  | _, _ => none
def xhull : List XV → Option XV
  | [] => none
  | x :: l => match l with
    | [] => some x
    | _ :: _ => match xhull l with
      | some y => xh2 x y
      | none => none
def xread (es : List XV) (q : Int × Int) : Option XV := if 0 ≤ q.1 ∧ q.2 < es.length then (if q.1 = q.2 then es[q.1.toNat]? else xhull ((es.drop q.1.toNat).take (q.2.toNat + 1 - q.1.toNat))) else none
def xwr (v : XV) : List XV → Nat → Nat → Option (List XV)
  | [], _, _ => some []
  | y :: l, i + 1, k => match xwr v l i k with
    | some l' => some (y :: l')
    | none => none
  | y :: l, 0, k + 1 => match xh2 y v, xwr v l 0 k with
    | some z, some l' => some (z :: l')
    | _, _ => none
  | l, 0, 0 => some l
def xwrite (es : List XV) (q : Int × Int) (v : XV) : Option (List XV) := if 0 ≤ q.1 ∧ q.2 < es.length then (if q.1 = q.2 then some (es.set q.1.toNat v) else xwr v es q.1.toNat (q.2.toNat + 1 - q.1.toNat)) else none
def xdef : FieldType → Option XV
  | .int => some (xi 0)
  | .boolean => some (xi 0)
  | .long => some (.inr (.inl (some 0)))
  | .object _ => some (.inr (.inr (0, 0)))
  | .array _ => some (.inr (.inr (0, 0)))
  | _ => none
def xfit : FieldType → XV → Bool
  | .int, .inl _ => true
  | .long, .inr (.inl _) => true
  | .object _, .inr (.inr _) => true
  | .array _, .inr (.inr _) => true
  | _, _ => false
def xfetch (t : List (List (Option XE))) (pc : Nat) : Option XE := match t[pc / 16]? with
  | some r => (match r[pc % 16]? with
    | some o => o
    | none => none)
  | none => none
-- the instructions' families
def xh_push (d : Nat) (v : XV) (pc : Nat) (lv : XL) (st : List XV) (w : XW) (k n : Nat) : Option XR := some (.inl (pc + d, lv, v :: st, w, k, n))
def xh_load (kd d j : Nat) (pc : Nat) (lv : XL) (st : List XV) (w : XW) (k n : Nat) : Option XR := match xk_get lv j with
  | some x => if xkd x = kd then some (.inl (pc + d, lv, x :: st, w, k, n)) else none
  | none => none
def xh_store (kd d j nL : Nat) (pc : Nat) (lv : XL) (st : List XV) (w : XW) (k n : Nat) : Option XR := match st with
  | x :: r => if xkd x = kd ∧ j < nL then some (.inl (pc + d, xk_set1 lv j x, r, w, k, n)) else none
  | [] => none
def xh_store2 (d j nL : Nat) (pc : Nat) (lv : XL) (st : List XV) (w : XW) (k n : Nat) : Option XR := match st with
  | x :: r => if xkd x = 1 ∧ j + 1 < nL then some (.inl (pc + d, xk_set2 lv j x, r, w, k, n)) else none
  | [] => none
def xh_iinc (j nL : Nat) (z : Int) (pc : Nat) (lv : XL) (st : List XV) (w : XW) (k n : Nat) : Option XR := match xk_get lv j with
  | some (.inl q) => if j < nL then some (.inl (pc + 3, xk_set1 lv j (.inl (xadd q (z, z))), st, w, k, n)) else none
  | _ => none
def xh_bin (f : Int × Int → Int × Int → Int × Int) (pc : Nat) (lv : XL) (st : List XV) (w : XW) (k n : Nat) : Option XR := match st with
  | .inl q :: .inl p :: r => some (.inl (pc + 1, lv, .inl (f p q) :: r, w, k, n))
  | _ => none
def xh_div (f : Int × Int → Int × Int → Int × Int) (pc : Nat) (lv : XL) (st : List XV) (w : XW) (k n : Nat) : Option XR := match st with
  | .inl q :: .inl p :: r => if 0 < q.1 ∨ q.2 < 0 then some (.inl (pc + 1, lv, .inl (f p q) :: r, w, k, n)) else none
  | _ => none
def xh_un (f : Int × Int → Int × Int) (pc : Nat) (lv : XL) (st : List XV) (w : XW) (k n : Nat) : Option XR := match st with
  | .inl p :: r => some (.inl (pc + 1, lv, .inl (f p) :: r, w, k, n))
  | _ => none
def xh_lneg (pc : Nat) (lv : XL) (st : List XV) (w : XW) (k n : Nat) : Option XR := match st with
  | .inr (.inl (some a)) :: r => some (.inl (pc + 1, lv, .inr (.inl (some (-(Int64.ofInt a)).toInt)) :: r, w, k, n))
  | .inr (.inl none) :: r => some (.inl (pc + 1, lv, .inr (.inl none) :: r, w, k, n))
  | _ => none
def xh_lbin (f : Option Int → Option Int → Option Int) (pc : Nat) (lv : XL) (st : List XV) (w : XW) (k n : Nat) : Option XR := match st with
  | .inr (.inl q) :: .inr (.inl p) :: r => some (.inl (pc + 1, lv, .inr (.inl (f p q)) :: r, w, k, n))
  | _ => none
def xh_lsh (f : Option Int → Int × Int → Option Int) (pc : Nat) (lv : XL) (st : List XV) (w : XW) (k n : Nat) : Option XR := match st with
  | .inl q :: .inr (.inl p) :: r => some (.inl (pc + 1, lv, .inr (.inl (f p q)) :: r, w, k, n))
  | _ => none
def xh_i2l (pc : Nat) (lv : XL) (st : List XV) (w : XW) (k n : Nat) : Option XR := match st with
  | .inl q :: r => some (.inl (pc + 1, lv, .inr (.inl (if q.1 = q.2 then some q.1 else none)) :: r, w, k, n))
  | _ => none
def xh_l2i (pc : Nat) (lv : XL) (st : List XV) (w : XW) (k n : Nat) : Option XR := match st with
  | .inr (.inl (some a)) :: r => some (.inl (pc + 1, lv, xi (Int64.ofInt a).toInt32.toInt :: r, w, k, n))
  | .inr (.inl none) :: r => some (.inl (pc + 1, lv, .inl xtop :: r, w, k, n))
  | _ => none
def xh_lcmp (pc : Nat) (lv : XL) (st : List XV) (w : XW) (k n : Nat) : Option XR := match st with
  | .inr (.inl (some b)) :: .inr (.inl (some a)) :: r => some (.inl (pc + 1, lv, xi (if a < b then -1 else if a = b then 0 else 1) :: r, w, k, n))
  | .inr (.inl _) :: .inr (.inl _) :: r => some (.inl (pc + 1, lv, .inl (-1, 1) :: r, w, k, n))
  | _ => none
def xh_dup (pc : Nat) (lv : XL) (st : List XV) (w : XW) (k n : Nat) : Option XR := match st with
  | x :: r => if xcat x = 1 then some (.inl (pc + 1, lv, x :: x :: r, w, k, n)) else none
  | _ => none
def xh_dup2 (pc : Nat) (lv : XL) (st : List XV) (w : XW) (k n : Nat) : Option XR := match st with
  | x :: r => if xcat x = 2 then some (.inl (pc + 1, lv, x :: x :: r, w, k, n)) else (match r with
    | y :: r2 => if xcat y = 1 then some (.inl (pc + 1, lv, x :: y :: x :: y :: r2, w, k, n)) else none
    | [] => none)
  | [] => none
def xh_br (o : Option Bool) (tgt : Nat) (pc : Nat) (lv : XL) (st : List XV) (w : XW) (k n : Nat) : Option XR := match o with
  | some true => some (.inl (tgt, lv, st, w, k, n))
  | some false => some (.inl (pc + 3, lv, st, w, k, n))
  | none => none
def xh_if (c : ClassFile.Cond) (tgt : Nat) (pc : Nat) (lv : XL) (st : List XV) (w : XW) (k n : Nat) : Option XR := match st with
  | .inl p :: r => xh_br (xcmp c p (0, 0)) tgt pc lv r w k n
  | _ => none
def xh_icmp (c : ClassFile.Cond) (tgt : Nat) (pc : Nat) (lv : XL) (st : List XV) (w : XW) (k n : Nat) : Option XR := match st with
  | .inl q :: .inl p :: r => xh_br (xcmp c p q) tgt pc lv r w k n
  | _ => none
def xh_null (neg : Bool) (tgt : Nat) (pc : Nat) (lv : XL) (st : List XV) (w : XW) (k n : Nat) : Option XR := match st with
  | .inr (.inr q) :: r => if (q.1 == 0) == neg then some (.inl (pc + 3, lv, r, w, k, n)) else some (.inl (tgt, lv, r, w, k, n))
  | _ => none
def xh_goto (tgt : Nat) (lv : XL) (st : List XV) (w : XW) (k n : Nat) : Option XR := some (.inl (tgt, lv, st, w, k, n))
def xh_table (dflt lo hi : Int) (offs : Array Int) (pc : Nat) (lv : XL) (st : List XV) (w : XW) (k n : Nat) : Option XR := match st with
  | .inl q :: r => if q.2 < lo ∨ hi < q.1 then (if 0 ≤ (pc : Int) + dflt then some (.inl (((pc : Int) + dflt).toNat, lv, r, w, k, n)) else none) else if q.1 = q.2 then (match offs[(q.1 - lo).toNat]? with
    | some off => if 0 ≤ (pc : Int) + off then some (.inl (((pc : Int) + off).toNat, lv, r, w, k, n)) else none
    | none => none) else none
  | _ => none
/-- an array's type, its places -/
def xarr (w : XW) (exc : List (List XV)) (q : Nat × Nat) : Option (Nat × List XV) := if q.1 = 1 then (match w[q.2]? with
  | some (.inr x) => some x
  | _ => none) else if q.1 = 2 then (match exc[q.2]? with
  | some es => some (0, es)
  | none => none) else none
def xh_ald (ty kd : Nat) (exc : List (List XV)) (pc : Nat) (lv : XL) (st : List XV) (w : XW) (k n : Nat) : Option XR := match st with
  | .inl i :: .inr (.inr q) :: r => (match xarr w exc q with
    | some (t, es) => if (ty = t ∨ (ty = 3 ∧ 3 ≤ t)) then (match xread es i with
      | some x => if xkd x = kd then some (.inl (pc + 1, lv, x :: r, w, k, n)) else none
      | none => none) else none
    | none => none)
  | _ => none
def xh_ast (ty kd : Nat) (pc : Nat) (lv : XL) (st : List XV) (w : XW) (k n : Nat) : Option XR := match st with
  | x :: .inl i :: .inr (.inr q) :: r => if q.1 = 1 ∧ xkd x = kd then (match w[q.2]? with
    | some (.inr (t, es)) => if ty = t then (match xwrite es i x with
      | some es' => some (.inl (pc + 1, lv, r, w.set q.2 (.inr (t, es')), k, n))
      | none => none) else none
    | _ => none) else none
  | _ => none
def xbool : XV → Bool
  | .inl q => decide (0 ≤ q.1 ∧ q.2 ≤ 1)
  | _ => false
def xh_zst (pc : Nat) (lv : XL) (st : List XV) (w : XW) (k n : Nat) : Option XR := match st with
  | x :: _ => if xbool x then xh_ast 2 0 pc lv st w k n else none
  | _ => none
/-- a cell into an array of references: the class that the array's type names -/
def xh_aast (tc : Nat → Option Nat) (pc : Nat) (lv : XL) (st : List XV) (w : XW) (k n : Nat) : Option XR := match st with
  | .inr (.inr v) :: .inl i :: .inr (.inr q) :: r => if q.1 = 1 ∧ v.1 = 1 ∧ i.1 = i.2 then (match w[q.2]?, w[v.2]? with
    | some (.inr (t, es)), some (.inl (c, _)) => if tc t = some c then (match xwrite es i (.inr (.inr v)) with
      | some es' => some (.inl (pc + 1, lv, r, w.set q.2 (.inr (t, es')), k, n))
      | none => none) else none
    | _, _ => none) else none
  | _ => none
def xh_alen (exc : List (List XV)) (pc : Nat) (lv : XL) (st : List XV) (w : XW) (k n : Nat) : Option XR := match st with
  | .inr (.inr q) :: r => (match xarr w exc q with
    | some (_, es) => if es.length < 2147483648 then some (.inl (pc + 1, lv, xi es.length :: r, w, k, n)) else none
    | none => none)
  | _ => none
def xh_newa (d t : Nat) (ty : Option FieldType) (mk mn : Nat) (pc : Nat) (lv : XL) (st : List XV) (w : XW) (k n : Nat) : Option XR := match st with
  | .inl q :: r => if q.1 = q.2 ∧ 0 ≤ q.1 ∧ q.1 < 1000 ∧ k + 1 ≤ mk ∧ n + q.1.toNat ≤ mn then (match ty with
    | some f => (match xdef f with
      | some v => some (.inl (pc + d, lv, .inr (.inr (1, w.length)) :: r, w ++ [.inr (t, List.replicate q.1.toNat v)], k + 1, n + q.1.toNat))
      | none => none)
    | none => none) else none
  | _ => none
def xh_new (c : Nat) (fs : Option (List XV)) (mk mn : Nat) (pc : Nat) (lv : XL) (st : List XV) (w : XW) (k n : Nat) : Option XR := match fs with
  | some fs => if k + 1 ≤ mk ∧ n + fs.length ≤ mn then some (.inl (pc + 3, lv, .inr (.inr (1, w.length)) :: st, w ++ [.inl (c, fs)], k + 1, n + fs.length)) else none
  | none => none
def xh_get (c f : Nat) (pc : Nat) (lv : XL) (st : List XV) (w : XW) (k n : Nat) : Option XR := match st with
  | .inr (.inr q) :: r => if q.1 = 1 then (match w[q.2]? with
    | some (.inl (c', fs)) => if c' = c then (match fs[f]? with
      | some v => some (.inl (pc + 3, lv, v :: r, w, k, n))
      | none => none) else none
    | _ => none) else none
  | _ => none
def xh_put (c f : Nat) (ty : Option FieldType) (pc : Nat) (lv : XL) (st : List XV) (w : XW) (k n : Nat) : Option XR := match st with
  | x :: .inr (.inr q) :: r => if q.1 = 1 then (match w[q.2]?, ty with
    | some (.inl (c', fs)), some t => if c' = c ∧ f < fs.length ∧ xfit t x = true then some (.inl (pc + 3, lv, r, w.set q.2 (.inl (c, fs.set f x)), k, n)) else none
    | _, _ => none) else none
  | _ => none
def xh_oinit (M : XM) (pc : Nat) (lv : XL) (st : List XV) (w : XW) (k n : Nat) : Option XR := match st with
  | .inr (.inr q) :: r => if q.1 = 1 ∧ 1 ≤ xm_f M ∧ (r.map xcat).sum + 12 ≤ xm_o M then some (.inl (pc + 3, lv, r, w, k, n)) else none
  | _ => none
/-- the receiver: a cell of that class -/
def xrecv (w : XW) (c : Nat) : List XV → Bool
  | .inr (.inr q) :: _ => q.1 == 1 && (match w[q.2]? with
    | some (.inl x) => x.1 == c
    | _ => false)
  | _ => false
def xh_call (cf : XF) (M : XM) (N : Option XM) (j na : Nat) (recv : Bool) (pc : Nat) (lv : XL) (st : List XV) (w : XW) (k n : Nat) : Option XR := match N with
  | some N => if na ≤ st.length ∧ ((st.drop na).map xcat).sum ≤ 8 ∧ xm_f N + 1 ≤ xm_f M ∧ 8 + (xm_l N + 11) + xm_o N ≤ xm_o M ∧ k + xm_k N ≤ xm_k M ∧ n + xm_n N ≤ xm_n M ∧ (!recv || xrecv w (xm_i N) (st.take na).reverse) = true then (match cf j (st.take na).reverse w with
    | some q => some (.inl (pc + 3, lv, q.1.toList ++ st.drop na, q.2, k + xm_k N, n + xm_n N))
    | none => none) else none
  | none => none
def xh_m2 (f : Int32 → Int32 → Int32) (M : XM) (pc : Nat) (lv : XL) (st : List XV) (w : XW) (k n : Nat) : Option XR := match st with
  | .inl q :: .inl p :: r => if 1 ≤ xm_f M ∧ (r.map xcat).sum + 13 ≤ xm_o M ∧ k ≤ xm_k M ∧ n ≤ xm_n M then some (.inl (pc + 3, lv, .inl (xe2 f p q) :: r, w, k, n)) else none
  | _ => none
def xh_m1 (f : Int32 → Int32) (M : XM) (pc : Nat) (lv : XL) (st : List XV) (w : XW) (k n : Nat) : Option XR := match st with
  | .inl p :: r => if 1 ≤ xm_f M ∧ (r.map xcat).sum + 13 ≤ xm_o M ∧ k ≤ xm_k M ∧ n ≤ xm_n M then some (.inl (pc + 3, lv, .inl (xe1 f p) :: r, w, k, n)) else none
  | _ => none
def xz : Option FieldType → Bool
  | some .boolean => true
  | _ => false
def xh_ret (kd : Nat) (ty : Option FieldType) (st : List XV) (w : XW) (k n : Nat) : Option XR := match st with
  | [x] => if xkd x = kd ∧ (!xz ty || xbool x) = true then some (.inr (some x, w, k, n)) else none
  | _ => none
def xh_retv (st : List XV) (w : XW) (k n : Nat) : Option XR := match st with
  | [] => some (.inr (none, w, k, n))
  | _ => none
def xins (cf : XF) (MT : Nat → Option XM) (FT : Nat → Nat → Option FieldType) (FD : Nat → Option (List XV)) (TY : Nat → Option FieldType) (TC : Nat → Option Nat) (exc : List (List XV)) (M : XM) (i : Instr) (a b : Nat) (z : Int) (pc : Nat) (lv : XL) (st : List XV) (w : XW) (k n : Nat) : Option XR := match i with
  | .iconst _ => xh_push 1 (xi z) pc lv st w k n
  | .bipush _ => xh_push 2 (xi z) pc lv st w k n
  | .sipush _ => xh_push 3 (xi z) pc lv st w k n
  | .ldc _ => xh_push 2 (xi z) pc lv st w k n
  | .ldc_w _ => xh_push 3 (xi z) pc lv st w k n
  | .lconst _ => xh_push 1 (.inr (.inl (some z))) pc lv st w k n
  | .ldc2_w _ => xh_push 3 (.inr (.inl (some z))) pc lv st w k n
  | .aconst_null => xh_push 1 (.inr (.inr (0, 0))) pc lv st w k n
  | .iload_n j => xh_load 0 1 j.val pc lv st w k n
  | .iload j => xh_load 0 2 j pc lv st w k n
  | .lload_n j => xh_load 1 1 j.val pc lv st w k n
  | .lload j => xh_load 1 2 j pc lv st w k n
  | .aload_n j => xh_load 2 1 j.val pc lv st w k n
  | .aload j => xh_load 2 2 j pc lv st w k n
  | .istore_n j => xh_store 0 1 j.val (xm_l M) pc lv st w k n
  | .istore j => xh_store 0 2 j (xm_l M) pc lv st w k n
  | .lstore_n j => xh_store2 1 j.val (xm_l M) pc lv st w k n
  | .lstore j => xh_store2 2 j (xm_l M) pc lv st w k n
  | .astore_n j => xh_store 2 1 j.val (xm_l M) pc lv st w k n
  | .astore j => xh_store 2 2 j (xm_l M) pc lv st w k n
  | .iinc j _ => xh_iinc j (xm_l M) z pc lv st w k n
  | .iadd => xh_bin xadd pc lv st w k n
  | .isub => xh_bin xsub pc lv st w k n
  | .imul => xh_bin (xe2 (fun x y => x * y)) pc lv st w k n
  | .iand => xh_bin (xe2 (fun x y => x &&& y)) pc lv st w k n
  | .ior => xh_bin (xe2 (fun x y => x ||| y)) pc lv st w k n
  | .ixor => xh_bin (xe2 (fun x y => x ^^^ y)) pc lv st w k n
  | .ishl => xh_bin (xe2 (fun x y => x <<< (y &&& 31))) pc lv st w k n
  | .ishr => xh_bin (xe2 (fun x y => x >>> (y &&& 31))) pc lv st w k n
  | .iushr => xh_bin (xe2 (fun x y => (x.toUInt32 >>> (y.toUInt32 &&& Int32.toUInt32 31)).toInt32)) pc lv st w k n
  | .idiv => xh_div (xe2 (fun x y => x / y)) pc lv st w k n
  | .irem => xh_div (xe2 (fun x y => x - x / y * y)) pc lv st w k n
  | .ineg => xh_un (xe1 (fun x => -x)) pc lv st w k n
  | .i2b => xh_un (xe1 (fun x => x.toInt8.toInt32)) pc lv st w k n
  | .lneg => xh_lneg pc lv st w k n
  | .ladd => xh_lbin (xl2 (fun x y => x + y)) pc lv st w k n
  | .lsub => xh_lbin (xl2 (fun x y => x - y)) pc lv st w k n
  | .lmul => xh_lbin (xl2 (fun x y => x * y)) pc lv st w k n
  | .land => xh_lbin (xl2 (fun x y => x &&& y)) pc lv st w k n
  | .lor => xh_lbin (xl2 (fun x y => x ||| y)) pc lv st w k n
  | .lxor => xh_lbin (xl2 (fun x y => x ^^^ y)) pc lv st w k n
  | .lshl => xh_lsh (xls (fun x y => x <<< (y.toInt64 &&& 63))) pc lv st w k n
  | .lshr => xh_lsh (xls (fun x y => x >>> (y.toInt64 &&& 63))) pc lv st w k n
  | .lushr => xh_lsh (xls (fun x y => (x.toUInt64 >>> (y.toInt64.toUInt64 &&& Int64.toUInt64 63)).toInt64)) pc lv st w k n
  | .i2l => xh_i2l pc lv st w k n
  | .l2i => xh_l2i pc lv st w k n
  | .lcmp => xh_lcmp pc lv st w k n
  | .dup => xh_dup pc lv st w k n
  | .dup2 => xh_dup2 pc lv st w k n
  | .ifCond c _ => xh_if c a pc lv st w k n
  | .if_icmp c _ => xh_icmp c a pc lv st w k n
  | .ifnull _ => xh_null false a pc lv st w k n
  | .ifnonnull _ => xh_null true a pc lv st w k n
  | .goto _ => xh_goto a lv st w k n
  | .tableswitch d lo hi offs => xh_table d lo hi offs pc lv st w k n
  | .iaload => xh_ald 0 0 exc pc lv st w k n
  | .laload => xh_ald 1 1 exc pc lv st w k n
  | .baload => xh_ald 2 0 exc pc lv st w k n
  | .aaload => xh_ald 3 2 exc pc lv st w k n
  | .iastore => xh_ast 0 0 pc lv st w k n
  | .lastore => xh_ast 1 1 pc lv st w k n
  | .bastore => xh_zst pc lv st w k n
  | .aastore => xh_aast TC pc lv st w k n
  | .arraylength => xh_alen exc pc lv st w k n
  | .newarray _ => xh_newa 2 a (TY a) (xm_k M) (xm_n M) pc lv st w k n
  | .anewarray _ => xh_newa 3 a (TY a) (xm_k M) (xm_n M) pc lv st w k n
  | .new _ => xh_new a (FD a) (xm_k M) (xm_n M) pc lv st w k n
  | .getfield _ => xh_get a b pc lv st w k n
  | .putfield _ => xh_put a b (FT a b) pc lv st w k n
  | .getstatic _ => xh_push 3 (.inr (.inr (2, a))) pc lv st w k n
  | .invokevirtual _ => xh_call cf M (MT a) a b true pc lv st w k n
  | .invokestatic _ => if a < 7000 then xh_call cf M (MT a) a b false pc lv st w k n else if a = 7000 then xh_m2 (fun x y => if x < y then y else x) M pc lv st w k n else if a = 7001 then xh_m2 (fun x y => if y < x then y else x) M pc lv st w k n else if a = 7002 then xh_m1 (fun x => if 0 ≤ x then x else 0 - x) M pc lv st w k n else none
  | .invokespecial _ => if a = 9999 then xh_oinit M pc lv st w k n else xh_call cf M (MT a) a b true pc lv st w k n
  | .ireturn => xh_ret 0 (xm_r M) st w k n
  | .lreturn => xh_ret 1 none st w k n
  | .areturn => xh_ret 2 none st w k n
  | .return_ => xh_retv st w k n
  | _ => none
end
section
/-! ===== what a bound says of a value, of a list, of the locals, of the world ===== -/
def xv_in (as ex : List Nat) : XV → Value → Prop
  | .inl q, v => ∃ x : Int32, v = .int x ∧ q.1 ≤ x.toInt ∧ x.toInt ≤ q.2
  | .inr (.inl o), v => ∃ y : Int64, v = .long y ∧ ∀ z, o = some z → y.toInt = z
  | .inr (.inr q), v => (q.1 = 0 ∧ v = .null) ∨ ∃ a : Nat, v = .ref a ∧ ((q.1 = 1 ∧ as[q.2]? = some a) ∨ (q.1 = 2 ∧ ex[q.2]? = some a))
def xl_in (as ex : List Nat) : List XV → List Value → Prop
  | [], vs => vs = []
  | x :: xs, vs => ∃ v vs', vs = v :: vs' ∧ xv_in as ex x v ∧ xl_in as ex xs vs'
def xk_in (as ex : List Nat) : XL → List (Nat × Value) → Prop
  | [], l => l = []
  | q :: xs, l => ∃ v l', l = (q.1, v) :: l' ∧ xv_in as ex q.2 v ∧ xk_in as ex xs l'
theorem xv_in.cat {as ex : List Nat} : ∀ {x : XV} {v : Value}, xv_in as ex x v → v.category = xcat x
  | .inl _, _, ⟨_, e, _⟩ => by subst e; rfl
  | .inr (.inl _), _, ⟨_, e, _⟩ => by subst e; rfl
  | .inr (.inr _), _, h => by
    rcases h with ⟨_, e⟩ | ⟨_, e, _⟩ <;> subst e <;> rfl
theorem xv_in.mono {as ex : List Nat} (t : List Nat) : ∀ {x : XV} {v : Value}, xv_in as ex x v → xv_in (as ++ t) ex x v
  | .inl _, _, h => h
  | .inr (.inl _), _, h => h
  | .inr (.inr q), v, h => by
    rcases h with h | ⟨a, e, ⟨h1, h2⟩ | h⟩
    · exact Or.inl h
    · exact Or.inr ⟨a, e, Or.inl ⟨h1, by rw [List.getElem?_append_left (List.getElem?_eq_some_iff.mp h2).1]; exact h2⟩⟩
    · exact Or.inr ⟨a, e, Or.inr h⟩
theorem xl_in.mono {as ex : List Nat} (t : List Nat) : ∀ {xs : List XV} {vs : List Value}, xl_in as ex xs vs → xl_in (as ++ t) ex xs vs
  | [], _, h => h
  | _ :: _, _, ⟨v, vs', e, h, k⟩ => ⟨v, vs', e, h.mono t, xl_in.mono t k⟩
theorem xk_in.mono {as ex : List Nat} (t : List Nat) : ∀ {xs : XL} {vs : List (Nat × Value)}, xk_in as ex xs vs → xk_in (as ++ t) ex xs vs
  | [], _, h => h
  | _ :: _, _, ⟨v, vs', e, h, k⟩ => ⟨v, vs', e, h.mono t, xk_in.mono t k⟩
theorem xl_in.get {as ex : List Nat} : ∀ {xs : List XV} {vs : List Value} {i : Nat} {x : XV}, xl_in as ex xs vs → xs[i]? = some x → ∃ v, vs[i]? = some v ∧ xv_in as ex x v
  | [], _, _, _, _, hi => by simp at hi
  | y :: xs, _, i, x, ⟨v, vs', e, h, k⟩, hi => by
    subst e
    cases i with
    | zero =>
      rw [List.getElem?_cons_zero] at hi
      cases hi
      exact ⟨v, by rw [List.getElem?_cons_zero], h⟩
    | succ i =>
      rw [List.getElem?_cons_succ] at hi
      obtain ⟨u, h1, h2⟩ := xl_in.get k hi
      exact ⟨u, by rw [List.getElem?_cons_succ]; exact h1, h2⟩
theorem xl_in.set {as ex : List Nat} {x : XV} {v : Value} (hv : xv_in as ex x v) : ∀ {xs : List XV} {vs : List Value} {i : Nat}, xl_in as ex xs vs → xl_in as ex (xs.set i x) (vs.set i v)
  | [], _, _, h => by
    have h : _ = [] := h
    subst h
    exact rfl
  | y :: xs, _, i, ⟨u, vs', e, h, k⟩ => by
    subst e
    cases i with
    | zero => exact ⟨v, vs', rfl, hv, k⟩
    | succ i => exact ⟨u, vs'.set i v, rfl, h, xl_in.set hv k⟩
theorem xl_in.len {as ex : List Nat} : ∀ {xs : List XV} {vs : List Value}, xl_in as ex xs vs → vs.length = xs.length
  | [], _, h => by
    have h : _ = [] := h
    subst h
    rfl
  | _ :: _, _, ⟨v, vs', e, _, k⟩ => by
    subst e
    simp [xl_in.len k]
theorem xl_in.app {as ex : List Nat} {ys : List XV} {us : List Value} (hy : xl_in as ex ys us) : ∀ {xs : List XV} {vs : List Value}, xl_in as ex xs vs → xl_in as ex (xs ++ ys) (vs ++ us)
  | [], _, h => by
    have h : _ = [] := h
    subst h
    exact hy
  | _ :: _, _, ⟨v, vs', e, h, k⟩ => by
    subst e
    exact ⟨v, vs' ++ us, rfl, h, xl_in.app hy k⟩
theorem xl_in.rev {as ex : List Nat} : ∀ {xs : List XV} {vs : List Value}, xl_in as ex xs vs → xl_in as ex xs.reverse vs.reverse
  | [], _, h => by
    have h : _ = [] := h
    subst h
    exact rfl
  | x :: _, _, ⟨v, vs', e, h, k⟩ => by
    subst e
    rw [List.reverse_cons, List.reverse_cons]
    have h1 : xl_in as ex [x] [v] := ⟨v, [], rfl, h, rfl⟩
    exact xl_in.app h1 (xl_in.rev k)
theorem xl_in.take {as ex : List Nat} : ∀ {xs : List XV} {vs : List Value} (n : Nat), xl_in as ex xs vs → xl_in as ex (xs.take n) (vs.take n)
  | [], _, _, h => by
    have h : _ = [] := h
    subst h
    simp [xl_in]
  | _ :: _, _, 0, _ => by simp [xl_in]
  | _ :: _, _, n + 1, ⟨v, vs', e, h, k⟩ => by
    subst e
    exact ⟨v, vs'.take n, rfl, h, xl_in.take n k⟩
theorem xl_in.drop {as ex : List Nat} : ∀ {xs : List XV} {vs : List Value} (n : Nat), xl_in as ex xs vs → xl_in as ex (xs.drop n) (vs.drop n)
  | [], _, _, h => by
    have h : _ = [] := h
    subst h
    simp [xl_in]
  | _ :: _, _, 0, h => h
  | _ :: _, _, n + 1, ⟨v, vs', e, _, k⟩ => by
    subst e
    exact xl_in.drop n k
theorem xl_in.cats {as ex : List Nat} : ∀ {xs : List XV} {vs : List Value}, xl_in as ex xs vs → (vs.map fun v => v.category).sum = (xs.map xcat).sum
  | [], _, h => by
    have h : _ = [] := h
    subst h
    rfl
  | _ :: _, _, ⟨v, vs', e, h, k⟩ => by
    subst e
    simp [xl_in.cats k, h.cat]
theorem xk_in.get {as ex : List Nat} : ∀ {xs : XL} {l : List (Nat × Value)} {i : Nat} {x : XV}, xk_in as ex xs l → xk_get xs i = some x → ∃ (k : Nat) (v : Value), l[k]? = some (i, v) ∧ xv_in as ex x v
  | [], _, _, _, _, hi => by cases hi
  | q :: xs, _, i, x, ⟨v, l', e, h, k⟩, hi => by
    subst e
    unfold xk_get at hi
    by_cases hq : q.1 = i
    · rw [if_pos hq] at hi
      cases hi
      exact ⟨0, v, by rw [List.getElem?_cons_zero, hq], h⟩
    · rw [if_neg hq] at hi
      obtain ⟨j, u, h1, h2⟩ := xk_in.get k hi
      exact ⟨j + 1, u, by rw [List.getElem?_cons_succ]; exact h1, h2⟩
theorem xk_in.filter {as ex : List Nat} {px : Nat × XV → Bool} {pl : Nat × Value → Bool} (hp : ∀ (q : Nat × XV) (v : Value), xv_in as ex q.2 v → pl (q.1, v) = px q) : ∀ {xs : XL} {l : List (Nat × Value)}, xk_in as ex xs l → xk_in as ex (xs.filter px) (l.filter pl)
  | [], _, h => by
    have h : _ = [] := h
    subst h
    exact rfl
  | q :: xs, _, ⟨v, l', e, h, k⟩ => by
    subst e
    have ih := xk_in.filter hp k
    rw [List.filter_cons, List.filter_cons, hp q v h]
    by_cases hq : px q = true
    · rw [if_pos hq, if_pos hq]
      exact ⟨v, _, rfl, h, ih⟩
    · rw [if_neg hq, if_neg hq]
      exact ih
theorem xk_in.set1 {as ex : List Nat} {xs : XL} {l : List (Nat × Value)} {i : Nat} {x : XV} {v : Value} (h : xk_in as ex xs l) (hv : xv_in as ex x v) : xk_in as ex (xk_set1 xs i x) ((i, v) :: l.filter (fun q => !(q.1 == i) && !(q.1 + 1 == i && q.2.category == 2))) :=
  ⟨v, _, rfl, hv, xk_in.filter (fun q u hu => by simp only [hu.cat]) h⟩
theorem xk_in.set2 {as ex : List Nat} {xs : XL} {l : List (Nat × Value)} {i : Nat} {x : XV} {v : Value} (h : xk_in as ex xs l) (hv : xv_in as ex x v) : xk_in as ex (xk_set2 xs i x) ((i, v) :: l.filter (fun q => !(q.1 == i) && (!(q.1 == i + 1) && !(q.1 + 1 == i && q.2.category == 2)))) :=
  ⟨v, _, rfl, hv, xk_in.filter (fun q u hu => by simp only [hu.cat]) h⟩
theorem xk_in.args {as ex : List Nat} : ∀ {xs : List XV} {vs : List Value} (i : Nat), xl_in as ex xs vs → xk_in as ex (xk_args i xs) (lv_args i vs)
  | [], _, _, h => by
    have h : _ = [] := h
    subst h
    exact rfl
  | x :: xs, _, i, ⟨v, vs', e, h, k⟩ => by
    subst e
    refine ⟨v, _, rfl, h, ?_⟩
    rw [h.cat]
    exact xk_in.args _ k
-- the world
def xa_get (x : vp_A) (j : Nat) : Value := match x.2 with
  | .inl f => .int (f j)
  | .inr (.inl f) => .long (f j)
  | .inr (.inr (.inl f)) => .float (f j)
  | .inr (.inr (.inr (.inl f))) => .double (f j)
  | .inr (.inr (.inr (.inr f))) => va_rf (f j)
def xa_k (t : Nat) (x : vp_A) : Prop := match x.2 with
  | .inl _ => t = 0 ∨ t = 2
  | .inr (.inl _) => t = 1
  | .inr (.inr (.inl _)) => False
  | .inr (.inr (.inr (.inl _))) => False
  | .inr (.inr (.inr (.inr _))) => 3 ≤ t ∧ t < 7
def xc_in (as ex : List Nat) (tA : Nat → ClassId) : XC → va_E → Prop
  | .inl o, e => ∃ vs, e = .inr (o.1, vs) ∧ xl_in as ex o.2 vs
  | .inr o, e => ∃ x : vp_A, e = .inl (tA o.1, x) ∧ x.1 = o.2.length ∧ xa_k o.1 x ∧ ∀ j y, o.2[j]? = some y → xv_in as ex y (xa_get x j)
theorem xc_in.mono {as ex : List Nat} {tA : Nat → ClassId} (t : List Nat) : ∀ {c : XC} {e : va_E}, xc_in as ex tA c e → xc_in (as ++ t) ex tA c e
  | .inl _, _, ⟨vs, e, h⟩ => ⟨vs, e, h.mono t⟩
  | .inr _, _, ⟨x, e, h1, h2, h3⟩ => ⟨x, e, h1, h2, fun j y hy => (h3 j y hy).mono t⟩
abbrev xad (ws : va_W) : List Nat := ws.map (fun q => q.1)
def xw_in (ex : List Nat) (tA : Nat → ClassId) (w : XW) (ws : va_W) : Prop := w.length = ws.length ∧ ∀ (i : Nat) (c : XC), w[i]? = some c → ∃ (a : Nat) (e : va_E), ws[i]? = some (a, e) ∧ xc_in (xad ws) ex tA c e
theorem xad_set {ws : va_W} {i a : Nat} {e0 e : va_E} (h : ws[i]? = some (a, e0)) : xad (ws.set i (a, e)) = xad ws := by
  apply List.ext_getElem?
  intro j
  unfold xad
  rw [List.getElem?_map, List.getElem?_map]
  by_cases hj : j = i
  · subst hj
    rw [List.getElem?_set_self (List.getElem?_eq_some_iff.mp h).1, h]
    rfl
  · rw [List.getElem?_set_ne (Ne.symm hj)]
theorem xad_push (ws : va_W) (a : Nat) (e : va_E) : xad (ws ++ [(a, e)]) = xad ws ++ [a] := by simp [xad]
theorem xad_at {ws : va_W} {i a : Nat} (h : (xad ws)[i]? = some a) : ∃ e, ws[i]? = some (a, e) := by
  unfold xad at h
  rw [List.getElem?_map] at h
  cases hw : ws[i]? with
  | none => rw [hw] at h; cases h
  | some q =>
    rw [hw] at h
    obtain ⟨b, e⟩ := q
    have h : some b = some a := h
    cases h
    exact ⟨e, rfl⟩
theorem xw_in.at {ex : List Nat} {tA : Nat → ClassId} {w : XW} {ws : va_W} {i a : Nat} {c : XC} (h : xw_in ex tA w ws) (hc : w[i]? = some c) (ha : (xad ws)[i]? = some a) : ∃ e, ws[i]? = some (a, e) ∧ xc_in (xad ws) ex tA c e := by
  obtain ⟨b, e, h1, h2⟩ := h.2 i c hc
  obtain ⟨e', h3⟩ := xad_at ha
  rw [h1] at h3
  cases h3
  exact ⟨e, h1, h2⟩
theorem xw_in.set {ex : List Nat} {tA : Nat → ClassId} {w : XW} {ws : va_W} {i a : Nat} {c : XC} {e0 e : va_E} (h : xw_in ex tA w ws) (hi : ws[i]? = some (a, e0)) (hc : xc_in (xad ws) ex tA c e) : xw_in ex tA (w.set i c) (ws.set i (a, e)) := by
  have hl := (List.getElem?_eq_some_iff.mp hi).1
  refine ⟨by simp [h.1], fun j d hj => ?_⟩
  rw [xad_set hi]
  by_cases hji : j = i
  · subst hji
    rw [List.getElem?_set_self (by rw [h.1]; exact hl)] at hj
    cases hj
    exact ⟨a, e, by rw [List.getElem?_set_self hl], hc⟩
  · rw [List.getElem?_set_ne (Ne.symm hji)] at hj
    obtain ⟨b, f, h1, h2⟩ := h.2 j d hj
    exact ⟨b, f, by rw [List.getElem?_set_ne (Ne.symm hji)]; exact h1, h2⟩
theorem xw_in.push {ex : List Nat} {tA : Nat → ClassId} {w : XW} {ws : va_W} {a : Nat} {c : XC} {e : va_E} (h : xw_in ex tA w ws) (hc : xc_in (xad ws ++ [a]) ex tA c e) : xw_in ex tA (w ++ [c]) (ws ++ [(a, e)]) := by
  refine ⟨by simp [h.1], fun j d hj => ?_⟩
  rw [xad_push]
  by_cases hl : j < w.length
  · rw [List.getElem?_append_left hl] at hj
    obtain ⟨b, f, h1, h2⟩ := h.2 j d hj
    exact ⟨b, f, by rw [List.getElem?_append_left (by rw [← h.1]; exact hl)]; exact h1, h2.mono [a]⟩
  · rw [List.getElem?_append_right (by omega)] at hj
    have hz : j - w.length < 1 := (List.getElem?_eq_some_iff.mp hj).1
    have hj0 : j = w.length := by omega
    subst hj0
    rw [Nat.sub_self] at hj
    cases hj
    exact ⟨a, e, by rw [h.1]; simp, hc⟩
-- numbers
theorem x_rng (x : Int32) : -2147483648 ≤ x.toInt ∧ x.toInt ≤ 2147483647 := by
  have h1 := Int32.le_toInt x
  have h2 := Int32.toInt_lt x
  omega
theorem x_one {q : Int × Int} {x : Int32} (h1 : q.1 ≤ x.toInt) (h2 : x.toInt ≤ q.2) (e : q.1 = q.2) : Int32.ofInt q.1 = x := by
  have h : x.toInt = q.1 := by omega
  rw [← h]
  exact Int32.ofInt_toInt x
theorem x_top {q : Int × Int} (hq : q = xtop) (x : Int32) : q.1 ≤ x.toInt ∧ x.toInt ≤ q.2 := by
  subst hq
  exact x_rng x
def xin2 (f : Int × Int → Int × Int → Int × Int) (g : Int32 → Int32 → Int32) : Prop := ∀ (p q : Int × Int) (x y : Int32), p.1 ≤ x.toInt → x.toInt ≤ p.2 → q.1 ≤ y.toInt → y.toInt ≤ q.2 → (f p q).1 ≤ (g x y).toInt ∧ (g x y).toInt ≤ (f p q).2
theorem xe2_in (g : Int32 → Int32 → Int32) : xin2 (xe2 g) g := by
  intro p q x y h1 h2 h3 h4
  unfold xe2
  by_cases h : p.1 = p.2 ∧ q.1 = q.2
  · rw [if_pos h, x_one h1 h2 h.1, x_one h3 h4 h.2]
    exact ⟨Int.le_refl _, Int.le_refl _⟩
  · rw [if_neg h]
    exact x_rng _
theorem xe1_in (g : Int32 → Int32) (p : Int × Int) (x : Int32) (h1 : p.1 ≤ x.toInt) (h2 : x.toInt ≤ p.2) : (xe1 g p).1 ≤ (g x).toInt ∧ (g x).toInt ≤ (xe1 g p).2 := by
  unfold xe1
  by_cases h : p.1 = p.2
  · rw [if_pos h, x_one h1 h2 h]
    exact ⟨Int.le_refl _, Int.le_refl _⟩
  · rw [if_neg h]
    exact x_rng _
theorem x_bmod {z : Int} (h1 : -2147483648 ≤ z) (h2 : z < 2147483648) : z.bmod (2 ^ 32) = z := by
  rw [Int.bmod_eq_of_le (by omega) (by omega)]
theorem xadd_in : xin2 xadd (fun x y => x + y) := by
  intro p q x y h1 h2 h3 h4
  unfold xadd
  by_cases h : -2147483648 ≤ p.1 + q.1 ∧ p.2 + q.2 ≤ 2147483647
  · rw [if_pos h]
    have e : (x + y).toInt = x.toInt + y.toInt := by rw [Int32.toInt_add, x_bmod (by omega) (by omega)]
    show p.1 + q.1 ≤ (x + y).toInt ∧ (x + y).toInt ≤ p.2 + q.2
    rw [e]
    omega
  · rw [if_neg h]
    exact xe2_in _ p q x y h1 h2 h3 h4
theorem xsub_in : xin2 xsub (fun x y => x - y) := by
  intro p q x y h1 h2 h3 h4
  unfold xsub
  by_cases h : -2147483648 ≤ p.1 - q.2 ∧ p.2 - q.1 ≤ 2147483647
  · rw [if_pos h]
    have e : (x - y).toInt = x.toInt - y.toInt := by rw [Int32.toInt_sub, x_bmod (by omega) (by omega)]
    show p.1 - q.2 ≤ (x - y).toInt ∧ (x - y).toInt ≤ p.2 - q.1
    rw [e]
    omega
  · rw [if_neg h]
    exact xe2_in _ p q x y h1 h2 h3 h4
def xlin (o : Option Int) (y : Int64) : Prop := ∀ z, o = some z → y.toInt = z
theorem x_oneL {a : Int} {y : Int64} (h : xlin (some a) y) : Int64.ofInt a = y := by
  rw [← h a rfl]
  exact Int64.ofInt_toInt y
theorem xl2_in (g : Int64 → Int64 → Int64) {a b : Option Int} {x y : Int64} (ha : xlin a x) (hb : xlin b y) : xlin (xl2 g a b) (g x y) := by
  intro z hz
  cases a with
  | none => cases hz
  | some a =>
    cases b with
    | none => cases hz
    | some b =>
      have hz : some (g (Int64.ofInt a) (Int64.ofInt b)).toInt = some z := hz
      rw [x_oneL ha, x_oneL hb] at hz
      exact Option.some.inj hz
theorem xls_in (g : Int64 → Int32 → Int64) (h0 : ∀ y, g 0 y = 0) {a : Option Int} {q : Int × Int} {x : Int64} {y : Int32} (ha : xlin a x) (h1 : q.1 ≤ y.toInt) (h2 : y.toInt ≤ q.2) : xlin (xls g a q) (g x y) := by
  intro z hz
  cases a with
  | none => cases hz
  | some a =>
    unfold xls at hz
    dsimp only at hz
    by_cases h : q.1 = q.2
    · rw [if_pos h, x_oneL ha, x_one h1 h2 h] at hz
      exact Option.some.inj hz
    · rw [if_neg h] at hz
      by_cases e : a = 0
      · rw [if_pos e] at hz
        subst e
        have hx : x = 0 := by
          have := x_oneL ha
          rw [← this]
          rfl
        rw [hx, h0]
        exact Option.some.inj hz
      · rw [if_neg e] at hz
        cases hz
theorem xlt_in {p q : Int × Int} {x y : Int32} {b : Bool} (h1 : p.1 ≤ x.toInt) (h2 : x.toInt ≤ p.2) (h3 : q.1 ≤ y.toInt) (h4 : y.toInt ≤ q.2) (h : xlt p q = some b) : (x < y) ↔ b = true := by
  rw [Int32.lt_iff_toInt_lt]
  unfold xlt at h
  by_cases c1 : p.2 < q.1
  · rw [if_pos c1] at h
    cases h
    exact ⟨fun _ => rfl, fun _ => by omega⟩
  · rw [if_neg c1] at h
    by_cases c2 : q.2 ≤ p.1
    · rw [if_pos c2] at h
      cases h
      exact ⟨fun _ => by omega, fun h => by cases h⟩
    · rw [if_neg c2] at h
      cases h
theorem xeq_in {p q : Int × Int} {x y : Int32} {b : Bool} (h1 : p.1 ≤ x.toInt) (h2 : x.toInt ≤ p.2) (h3 : q.1 ≤ y.toInt) (h4 : y.toInt ≤ q.2) (h : xeq p q = some b) : (x = y) ↔ b = true := by
  rw [← Int32.toInt_inj]
  unfold xeq at h
  by_cases c1 : p.1 = p.2 ∧ q.1 = q.2 ∧ p.1 = q.1
  · rw [if_pos c1] at h
    cases h
    exact ⟨fun _ => rfl, fun _ => by omega⟩
  · rw [if_neg c1] at h
    by_cases c2 : p.2 < q.1 ∨ q.2 < p.1
    · rw [if_pos c2] at h
      cases h
      exact ⟨fun _ => by omega, fun h => by cases h⟩
    · rw [if_neg c2] at h
      cases h
theorem xno_in {o : Option Bool} {b : Bool} {P : Prop} (h : xno o = some b) (k : ∀ b', o = some b' → (P ↔ b' = true)) : (¬ P) ↔ b = true := by
  cases o with
  | none => cases h
  | some a =>
    have ka := k a rfl
    cases a with
    | true =>
      cases h
      exact ⟨fun h => absurd (ka.mpr rfl) h, fun h => by cases h⟩
    | false =>
      cases h
      exact ⟨fun _ => rfl, fun _ hp => by cases ka.mp hp⟩
end
section
/-! ===== a row a family: the machine at a configuration goes on to the next one ===== -/
def xvk : Nat → Value → Prop
  | 0, v => ∃ y : Int32, v = .int y
  | 1, v => ∃ y : Int64, v = .long y
  | 2, v => v = .null ∨ ∃ a : Nat, v = .ref a
  | _, _ => False
theorem xv_in.vk {as ex : List Nat} : ∀ {x : XV} {v : Value}, xv_in as ex x v → xvk (xkd x) v
  | .inl _, _, ⟨x, e, _⟩ => ⟨x, e⟩
  | .inr (.inl _), _, ⟨x, e, _⟩ => ⟨x, e⟩
  | .inr (.inr _), _, h => by
    rcases h with ⟨_, e⟩ | ⟨a, e, _⟩
    · exact Or.inl e
    · exact Or.inr ⟨a, e⟩
theorem xh2_l {as ex : List Nat} {v : Value} : ∀ {x y z : XV}, xh2 x y = some z → xv_in as ex x v → xv_in as ex z v
  | .inl p, .inl q, _, h, ⟨u, e, h1, h2⟩ => by
    cases h
    refine ⟨u, e, ?_, ?_⟩
    · show (if p.1 ≤ q.1 then p.1 else q.1) ≤ u.toInt
      split <;> omega
    · show u.toInt ≤ (if p.2 ≤ q.2 then q.2 else p.2)
      split <;> omega
  | .inr (.inl a), .inr (.inl b), _, h, ⟨u, e, h1⟩ => by
    cases h
    refine ⟨u, e, fun z hz => ?_⟩
    by_cases hab : a = b
    · rw [if_pos hab] at hz
      exact h1 z hz
    · rw [if_neg hab] at hz
      cases hz
  | .inr (.inr a), .inr (.inr b), z, h, hv => by
    have h : (if a = b then some (Sum.inr (Sum.inr a)) else none) = some z := h
    by_cases hab : a = b
    · rw [if_pos hab] at h
      cases h
      exact hv
    · rw [if_neg hab] at h
      cases h
  | .inl _, .inr (.inl _), _, h, _ => by cases h
  | .inl _, .inr (.inr _), _, h, _ => by cases h
  | .inr (.inl _), .inl _, _, h, _ => by cases h
  | .inr (.inl _), .inr (.inr _), _, h, _ => by cases h
  | .inr (.inr _), .inl _, _, h, _ => by cases h
  | .inr (.inr _), .inr (.inl _), _, h, _ => by cases h
theorem xh2_r {as ex : List Nat} {v : Value} : ∀ {x y z : XV}, xh2 x y = some z → xv_in as ex y v → xv_in as ex z v
  | .inl p, .inl q, _, h, ⟨u, e, h1, h2⟩ => by
    cases h
    refine ⟨u, e, ?_, ?_⟩
    · show (if p.1 ≤ q.1 then p.1 else q.1) ≤ u.toInt
      split <;> omega
    · show u.toInt ≤ (if p.2 ≤ q.2 then q.2 else p.2)
      split <;> omega
  | .inr (.inl a), .inr (.inl b), _, h, ⟨u, e, h1⟩ => by
    cases h
    refine ⟨u, e, fun z hz => ?_⟩
    by_cases hab : a = b
    · rw [if_pos hab, hab] at hz
      exact h1 z hz
    · rw [if_neg hab] at hz
      cases hz
  | .inr (.inr a), .inr (.inr b), z, h, hv => by
    have h : (if a = b then some (Sum.inr (Sum.inr a)) else none) = some z := h
    by_cases hab : a = b
    · rw [if_pos hab] at h
      cases h
      rw [hab]
      exact hv
    · rw [if_neg hab] at h
      cases h
  | .inl _, .inr (.inl _), _, h, _ => by cases h
  | .inl _, .inr (.inr _), _, h, _ => by cases h
  | .inr (.inl _), .inl _, _, h, _ => by cases h
  | .inr (.inl _), .inr (.inr _), _, h, _ => by cases h
  | .inr (.inr _), .inl _, _, h, _ => by cases h
  | .inr (.inr _), .inr (.inl _), _, h, _ => by cases h
theorem xhull_in {as ex : List Nat} {v : Value} : ∀ {l : List XV} {y z : XV}, xhull l = some z → y ∈ l → xv_in as ex y v → xv_in as ex z v
  | [], _, _, _, hy, _ => by cases hy
  | [x], y, z, h, hy, hv => by
    have h : some x = some z := h
    cases h
    rw [List.mem_singleton.mp hy] at hv
    exact hv
  | x :: u :: l, y, z, h, hy, hv => by
    unfold xhull at h
    dsimp only at h
    cases hh : xhull (u :: l) with
    | none => rw [hh] at h; cases h
    | some g =>
      rw [hh] at h
      dsimp only at h
      rcases List.mem_cons.mp hy with e | hm
      · subst e
        exact xh2_l h hv
      · exact xh2_r h (xhull_in hh hm hv)
theorem xread_in {as ex : List Nat} {es : List XV} {q : Int × Int} {x : XV} {i : Int32} (h : xread es q = some x) (h1 : q.1 ≤ i.toInt) (h2 : i.toInt ≤ q.2) : vp_in i es.length ∧ ∃ y, es[i.toNatClampNeg]? = some y ∧ ∀ v, xv_in as ex y v → xv_in as ex x v := by
  unfold xread at h
  by_cases hb : 0 ≤ q.1 ∧ q.2 < es.length
  · rw [if_pos hb] at h
    have hin : vp_in i es.length := vp_in_iff.mpr ⟨by omega, by omega⟩
    refine ⟨hin, ?_⟩
    have hn : i.toNatClampNeg = i.toInt.toNat := rfl
    by_cases he : q.1 = q.2
    · rw [if_pos he] at h
      have : i.toInt = q.1 := by omega
      rw [hn, this]
      exact ⟨x, h, fun _ hv => hv⟩
    · rw [if_neg he] at h
      have hlt : i.toInt.toNat < es.length := by omega
      refine ⟨es[i.toInt.toNat], by rw [hn, List.getElem?_eq_getElem hlt], fun v hv => xhull_in h ?_ hv⟩
      apply List.mem_of_getElem? (i := i.toInt.toNat - q.1.toNat)
      rw [List.getElem?_take, if_pos (by omega), List.getElem?_drop, show q.1.toNat + (i.toInt.toNat - q.1.toNat) = i.toInt.toNat by omega, List.getElem?_eq_getElem hlt]
  · rw [if_neg hb] at h
    cases h
theorem xwr_in {as ex : List Nat} {v : XV} : ∀ {es es' : List XV} {lo k : Nat}, xwr v es lo k = some es' → es'.length = es.length ∧ ∀ (j : Nat) (y : XV), es'[j]? = some y → ∃ y0, es[j]? = some y0 ∧ (∀ u, xv_in as ex y0 u → xv_in as ex y u) ∧ (lo ≤ j → j < lo + k → ∀ u, xv_in as ex v u → xv_in as ex y u)
  | [], es', lo, k, h => by
    have h : some ([] : List XV) = some es' := by
      cases lo <;> cases k <;> exact h
    cases h
    exact ⟨rfl, fun j y hy => by simp at hy⟩
  | e :: l, es', lo + 1, k, h => by
    unfold xwr at h
    cases hh : xwr v l lo k with
    | none => rw [hh] at h; cases h
    | some l' =>
      rw [hh] at h
      cases h
      obtain ⟨i1, i2⟩ := xwr_in (as := as) (ex := ex) hh
      refine ⟨by simp [i1], fun j y hy => ?_⟩
      cases j with
      | zero =>
        rw [List.getElem?_cons_zero] at hy
        cases hy
        exact ⟨e, by rw [List.getElem?_cons_zero], fun _ hu => hu, fun h => by omega⟩
      | succ j =>
        rw [List.getElem?_cons_succ] at hy
        obtain ⟨y0, a1, a2, a3⟩ := i2 j y hy
        exact ⟨y0, by rw [List.getElem?_cons_succ]; exact a1, a2, fun h1 h2 => a3 (by omega) (by omega)⟩
  | e :: l, es', 0, k + 1, h => by
    unfold xwr at h
    cases hz : xh2 e v with
    | none => rw [hz] at h; cases h
    | some z =>
      cases hh : xwr v l 0 k with
      | none => rw [hz, hh] at h; cases h
      | some l' =>
        rw [hz, hh] at h
        cases h
        obtain ⟨i1, i2⟩ := xwr_in (as := as) (ex := ex) hh
        refine ⟨by simp [i1], fun j y hy => ?_⟩
        cases j with
        | zero =>
          rw [List.getElem?_cons_zero] at hy
          cases hy
          exact ⟨e, by rw [List.getElem?_cons_zero], fun _ hu => xh2_l hz hu, fun _ _ _ hu => xh2_r hz hu⟩
        | succ j =>
          rw [List.getElem?_cons_succ] at hy
          obtain ⟨y0, a1, a2, a3⟩ := i2 j y hy
          exact ⟨y0, by rw [List.getElem?_cons_succ]; exact a1, a2, fun h1 h2 => a3 (by omega) (by omega)⟩
  | e :: l, es', 0, 0, h => by
    have h : some (e :: l) = some es' := h
    cases h
    exact ⟨rfl, fun j y hy => ⟨y, hy, fun _ hu => hu, fun h1 h2 => by omega⟩⟩
theorem xwrite_in {as ex : List Nat} {es es' : List XV} {q : Int × Int} {v : XV} {i : Int32} (h : xwrite es q v = some es') (h1 : q.1 ≤ i.toInt) (h2 : i.toInt ≤ q.2) : vp_in i es.length ∧ es'.length = es.length ∧ ∀ (j : Nat) (y : XV), es'[j]? = some y → (j = i.toNatClampNeg → ∀ u, xv_in as ex v u → xv_in as ex y u) ∧ (j ≠ i.toNatClampNeg → ∃ y0, es[j]? = some y0 ∧ ∀ u, xv_in as ex y0 u → xv_in as ex y u) := by
  unfold xwrite at h
  by_cases hb : 0 ≤ q.1 ∧ q.2 < es.length
  · rw [if_pos hb] at h
    have hin : vp_in i es.length := vp_in_iff.mpr ⟨by omega, by omega⟩
    have hn : i.toNatClampNeg = i.toInt.toNat := rfl
    refine ⟨hin, ?_⟩
    by_cases he : q.1 = q.2
    · rw [if_pos he] at h
      cases h
      have hq : q.1.toNat = i.toInt.toNat := by omega
      rw [hn, ← hq]
      refine ⟨by simp, fun j y hy => ⟨fun ej u hu => ?_, fun nj => ?_⟩⟩
      · subst ej
        rw [List.getElem?_set_self (by omega)] at hy
        cases hy
        exact hu
      · rw [List.getElem?_set_ne (Ne.symm nj)] at hy
        exact ⟨y, hy, fun _ hu => hu⟩
    · rw [if_neg he] at h
      obtain ⟨i1, i2⟩ := xwr_in (as := as) (ex := ex) h
      refine ⟨i1, fun j y hy => ?_⟩
      obtain ⟨y0, a1, a2, a3⟩ := i2 j y hy
      exact ⟨fun ej u hu => a3 (by rw [ej, hn]; omega) (by rw [ej, hn]; omega) u hu, fun _ => ⟨y0, a1, a2⟩⟩
  · rw [if_neg hb] at h
    cases h
/-- which answer a method has that returns so -/
def xrt : Instr → Option FieldType → Prop
  | .ireturn, t => t = some .int ∨ t = some .boolean
  | .lreturn, t => t = some .long
  | .areturn, t => ∃ C, t = some (.object C)
  | .return_, t => t = none
  | _, _ => False
def xo_in (as ex : List Nat) : Option XV → Option Value → Prop
  | none, v => v = none
  | some x, v => ∃ u, v = some u ∧ xv_in as ex x u
def xrk : Instr → Option Value → Prop
  | .ireturn, v => ∃ x : Int32, v = some (.int x)
  | .lreturn, v => ∃ x : Int64, v = some (.long x)
  | .areturn, v => v = some .null ∨ ∃ a : Nat, v = some (.ref a)
  | .return_, v => v = none
  | _, _ => False
section XT
variable (p : Program) (l : Launch) (e : Env) (R : Room) (s : State) (m : MethodId) (args : Array Value) (below : List Frame) (meth : Method) (c : Code) (Q : State → Prop) (cc : ByteArray) (nL : Nat) (D : va_G) (cl : List vw_C) (tA : Nat → ClassId) (A : Nat → Prop) (as0 ex : List Nat) (ret : Option FieldType)
def XAt (lv : XL) (st : List XV) (w : XW) (H : Heap) (locs : List Loc) (ls : Array Slot) (vs : List Value) (lw : List (Nat × Value)) (ws : va_W) : Prop :=
  xk_in (xad ws) ex lv lw ∧ xl_in (xad ws) ex st vs ∧ xw_in ex tA w ws ∧ va_P D cl ws H ∧ va_D A ws ∧ va_S A s.heap H locs ∧ lv_has ls nL lw ∧ ∃ t, xad ws = as0 ++ t
def XSat (S : XS) : Prop := ∀ (H : Heap) (locs : List Loc) (ls : Array Slot) (vs : List Value) (lw : List (Nat × Value)) (ws : va_W), XAt s nL D cl tA A as0 ex S.2.1 S.2.2.1 S.2.2.2.1 H locs ls vs lw ws → W p l e R s m args below meth c H locs S.2.2.2.2.1 S.2.2.2.2.2 Q (F0 m S.1 ls vs)
def XRet (r : Option XV × XW × Nat × Nat) : Prop := ∀ (pc : Nat) (i : Instr) (H : Heap) (locs : List Loc) (ls : Array Slot) (rv : Option Value) (ws : va_W), decode cc pc = .ok (i, 1) → xrt i ret → xrk i rv → xo_in (xad ws) ex r.1 rv → (xz ret = true → ∀ x : Int32, rv = some (.int x) → x = 0 ∨ x = 1) → xw_in ex tA r.2.1 ws → va_P D cl ws H → va_D A ws → va_S A s.heap H locs → (∃ t, xad ws = as0 ++ t) → W p l e R s m args below meth c H locs r.2.2.1 r.2.2.2 Q (F0 m pc ls rv.toList)
def XRs : XR → Prop
  | .inl S => XSat p l e R s m args below meth c Q nL D cl tA A as0 ex S
  | .inr r => XRet p l e R s m args below meth c Q cc D cl tA A as0 ex ret r
end XT
section XO
variable {p : Program} {l : Launch} {e : Env} {R : Room} {s : State} {m : MethodId} {args : Array Value} {below : List Frame} {meth : Method} {c : Code} {Q : State → Prop} {cc : ByteArray} {nL : Nat} {D : va_G} {cl : List vw_C} {tA : Nat → ClassId} {A : Nat → Prop} {as0 ex : List Nat} {ret : Option FieldType} {pc : Nat} {lv : XL} {st : List XV} {w : XW} {k n : Nat} {r : XR}
theorem xo_push {d : Nat} {v : XV} {val : Value} (hv : ∀ as : List Nat, xv_in as ex v val) (h : xh_push d v pc lv st w k n = some r) (hr : XRs p l e R s m args below meth c Q cc nL D cl tA A as0 ex ret r) (row : ∀ (H : Heap) (locs : List Loc) (ls : Array Slot) (vs : List Value), va_S A s.heap H locs → W p l e R s m args below meth c H locs k n Q (F0 m (pc + d) ls (val :: vs)) → W p l e R s m args below meth c H locs k n Q (F0 m pc ls vs)) : XSat p l e R s m args below meth c Q nL D cl tA A as0 ex (pc, lv, st, w, k, n) := by
  cases h
  intro H locs ls vs lw ws ⟨h1, h2, h3, h4, h5, h6, h7, h8⟩
  exact row H locs ls vs h6 (hr H locs ls (val :: vs) lw ws ⟨h1, ⟨val, vs, rfl, hv _, h2⟩, h3, h4, h5, h6, h7, h8⟩)
theorem xo_load {kd d j : Nat} (h : xh_load kd d j pc lv st w k n = some r) (hr : XRs p l e R s m args below meth c Q cc nL D cl tA A as0 ex ret r) (row : ∀ (v : Value) (H : Heap) (locs : List Loc) (ls : Array Slot) (vs : List Value), xvk kd v → ls[j]? = some (.val v) → W p l e R s m args below meth c H locs k n Q (F0 m (pc + d) ls (v :: vs)) → W p l e R s m args below meth c H locs k n Q (F0 m pc ls vs)) : XSat p l e R s m args below meth c Q nL D cl tA A as0 ex (pc, lv, st, w, k, n) := by
  unfold xh_load at h
  cases hx : xk_get lv j with
  | none => rw [hx] at h; cases h
  | some x =>
    rw [hx] at h
    dsimp only at h
    by_cases hk : xkd x = kd
    · rw [if_pos hk] at h
      cases h
      intro H locs ls vs lw ws ⟨h1, h2, h3, h4, h5, h6, h7, h8⟩
      obtain ⟨q, v, hq, hv⟩ := h1.get hx
      exact row v H locs ls vs (hk ▸ hv.vk) (lv_at h7 q hq) (hr H locs ls (v :: vs) lw ws ⟨h1, ⟨v, vs, rfl, hv, h2⟩, h3, h4, h5, h6, h7, h8⟩)
    · rw [if_neg hk] at h
      cases h
theorem xo_store {kd d j : Nat} (h : xh_store kd d j nL pc lv st w k n = some r) (hr : XRs p l e R s m args below meth c Q cc nL D cl tA A as0 ex ret r) (row : ∀ (v : Value) (H : Heap) (locs : List Loc) (ls : Array Slot) (vs : List Value) (lw : List (Nat × Value)), xvk kd v → lv_has ls nL lw → j < nL → (∀ ls' : Array Slot, lv_has ls' nL ((j, v) :: lw.filter (fun q => !(q.1 == j) && !(q.1 + 1 == j && q.2.category == 2))) → W p l e R s m args below meth c H locs k n Q (F0 m (pc + d) ls' vs)) → W p l e R s m args below meth c H locs k n Q (F0 m pc ls (v :: vs))) : XSat p l e R s m args below meth c Q nL D cl tA A as0 ex (pc, lv, st, w, k, n) := by
  cases st with
  | nil => cases h
  | cons x st =>
    unfold xh_store at h
    dsimp only at h
    by_cases hk : xkd x = kd ∧ j < nL
    · rw [if_pos hk] at h
      cases h
      intro H locs ls vs lw ws ⟨h1, h2, h3, h4, h5, h6, h7, h8⟩
      obtain ⟨v, vs', rfl, hv, h2⟩ := h2
      exact row v H locs ls vs' lw (hk.1 ▸ hv.vk) h7 hk.2 (fun ls' hl' => hr H locs ls' vs' _ ws ⟨h1.set1 hv, h2, h3, h4, h5, h6, hl', h8⟩)
    · rw [if_neg hk] at h
      cases h
theorem xo_store2 {d j : Nat} (h : xh_store2 d j nL pc lv st w k n = some r) (hr : XRs p l e R s m args below meth c Q cc nL D cl tA A as0 ex ret r) (row : ∀ (v : Value) (H : Heap) (locs : List Loc) (ls : Array Slot) (vs : List Value) (lw : List (Nat × Value)), xvk 1 v → lv_has ls nL lw → j + 1 < nL → (∀ ls' : Array Slot, lv_has ls' nL ((j, v) :: lw.filter (fun q => !(q.1 == j) && (!(q.1 == j + 1) && !(q.1 + 1 == j && q.2.category == 2)))) → W p l e R s m args below meth c H locs k n Q (F0 m (pc + d) ls' vs)) → W p l e R s m args below meth c H locs k n Q (F0 m pc ls (v :: vs))) : XSat p l e R s m args below meth c Q nL D cl tA A as0 ex (pc, lv, st, w, k, n) := by
  cases st with
  | nil => cases h
  | cons x st =>
    unfold xh_store2 at h
    dsimp only at h
    by_cases hk : xkd x = 1 ∧ j + 1 < nL
    · rw [if_pos hk] at h
      cases h
      intro H locs ls vs lw ws ⟨h1, h2, h3, h4, h5, h6, h7, h8⟩
      obtain ⟨v, vs', rfl, hv, h2⟩ := h2
      exact row v H locs ls vs' lw (hk.1 ▸ hv.vk) h7 hk.2 (fun ls' hl' => hr H locs ls' vs' _ ws ⟨h1.set2 hv, h2, h3, h4, h5, h6, hl', h8⟩)
    · rw [if_neg hk] at h
      cases h
theorem xo_iinc {j : Nat} {z : Int} {g : Int} (hx : p.tables.exec = Jvm.exec) (hb : c.code = cc) (hd : decode cc pc = .ok (.iinc j g, 3)) (hz : (Int32.ofInt g).toInt = z) (h : xh_iinc j nL z pc lv st w k n = some r) (hr : XRs p l e R s m args below meth c Q cc nL D cl tA A as0 ex ret r) : XSat p l e R s m args below meth c Q nL D cl tA A as0 ex (pc, lv, st, w, k, n) := by
  unfold xh_iinc at h
  cases hk : xk_get lv j with
  | none => rw [hk] at h; cases h
  | some x =>
    rw [hk] at h
    match x, hk, h with
    | .inr _, _, h => cases h
    | .inl q, hk, h =>
      dsimp only at h
      by_cases hj : j < nL
      · rw [if_pos hj] at h
        cases h
        intro H locs ls vs lw ws ⟨h1, h2, h3, h4, h5, h6, h7, h8⟩
        obtain ⟨i, v, hi, x, rfl, b1, b2⟩ := h1.get hk
        refine lv_iinc (v := x + Int32.ofInt g) hx hb hd h7 hi rfl hj rfl (fun ls' hl' => ?_)
        have hb3 := xadd_in q (z, z) x (Int32.ofInt g) b1 b2 (by rw [hz]; exact Int.le_refl _) (by rw [hz]; exact Int.le_refl _)
        exact hr H locs ls' vs _ ws ⟨h1.set1 ⟨x + Int32.ofInt g, rfl, hb3⟩, h2, h3, h4, h5, h6, hl', h8⟩
      · rw [if_neg hj] at h
        cases h
theorem xo_bin {f : Int × Int → Int × Int → Int × Int} {g : Int32 → Int32 → Int32} (hf : xin2 f g) (h : xh_bin f pc lv st w k n = some r) (hr : XRs p l e R s m args below meth c Q cc nL D cl tA A as0 ex ret r) (row : ∀ (x y : Int32) (H : Heap) (locs : List Loc) (ls : Array Slot) (vs : List Value), W p l e R s m args below meth c H locs k n Q (F0 m (pc + 1) ls (.int (g x y) :: vs)) → W p l e R s m args below meth c H locs k n Q (F0 m pc ls (.int y :: .int x :: vs))) : XSat p l e R s m args below meth c Q nL D cl tA A as0 ex (pc, lv, st, w, k, n) := by
  match st, h with
  | .inl q :: .inl p0 :: st, h =>
    cases h
    intro H locs ls vs lw ws ⟨h1, h2, h3, h4, h5, h6, h7, h8⟩
    obtain ⟨_, _, rfl, ⟨y, rfl, y1, y2⟩, _, vs', rfl, ⟨x, rfl, x1, x2⟩, h2⟩ := h2
    exact row x y H locs ls vs' (hr H locs ls _ lw ws ⟨h1, ⟨_, vs', rfl, ⟨g x y, rfl, hf p0 q x y x1 x2 y1 y2⟩, h2⟩, h3, h4, h5, h6, h7, h8⟩)
theorem xo_div {f : Int × Int → Int × Int → Int × Int} {g : Int32 → Int32 → Int32} (hf : xin2 f g) (h : xh_div f pc lv st w k n = some r) (hr : XRs p l e R s m args below meth c Q cc nL D cl tA A as0 ex ret r) (row : ∀ (x y : Int32) (H : Heap) (locs : List Loc) (ls : Array Slot) (vs : List Value), ¬ y = 0 → W p l e R s m args below meth c H locs k n Q (F0 m (pc + 1) ls (.int (g x y) :: vs)) → W p l e R s m args below meth c H locs k n Q (F0 m pc ls (.int y :: .int x :: vs))) : XSat p l e R s m args below meth c Q nL D cl tA A as0 ex (pc, lv, st, w, k, n) := by
  match st, h with
  | .inl q :: .inl p0 :: st, h =>
    unfold xh_div at h
    dsimp only at h
    by_cases hq : 0 < q.1 ∨ q.2 < 0
    · rw [if_pos hq] at h
      cases h
      intro H locs ls vs lw ws ⟨h1, h2, h3, h4, h5, h6, h7, h8⟩
      obtain ⟨_, _, rfl, ⟨y, rfl, y1, y2⟩, _, vs', rfl, ⟨x, rfl, x1, x2⟩, h2⟩ := h2
      have hy : ¬ y = 0 := fun e0 => by
        rw [e0] at y1 y2
        have z : (0 : Int32).toInt = 0 := rfl
        omega
      exact row x y H locs ls vs' hy (hr H locs ls _ lw ws ⟨h1, ⟨_, vs', rfl, ⟨g x y, rfl, hf p0 q x y x1 x2 y1 y2⟩, h2⟩, h3, h4, h5, h6, h7, h8⟩)
    · rw [if_neg hq] at h
      cases h
theorem xo_un {g : Int32 → Int32} (h : xh_un (xe1 g) pc lv st w k n = some r) (hr : XRs p l e R s m args below meth c Q cc nL D cl tA A as0 ex ret r) (row : ∀ (x : Int32) (H : Heap) (locs : List Loc) (ls : Array Slot) (vs : List Value), W p l e R s m args below meth c H locs k n Q (F0 m (pc + 1) ls (.int (g x) :: vs)) → W p l e R s m args below meth c H locs k n Q (F0 m pc ls (.int x :: vs))) : XSat p l e R s m args below meth c Q nL D cl tA A as0 ex (pc, lv, st, w, k, n) := by
  match st, h with
  | .inl p0 :: st, h =>
    cases h
    intro H locs ls vs lw ws ⟨h1, h2, h3, h4, h5, h6, h7, h8⟩
    obtain ⟨_, vs', rfl, ⟨x, rfl, x1, x2⟩, h2⟩ := h2
    exact row x H locs ls vs' (hr H locs ls _ lw ws ⟨h1, ⟨_, vs', rfl, ⟨g x, rfl, xe1_in g p0 x x1 x2⟩, h2⟩, h3, h4, h5, h6, h7, h8⟩)
theorem xo_lneg (h : xh_lneg pc lv st w k n = some r) (hr : XRs p l e R s m args below meth c Q cc nL D cl tA A as0 ex ret r) (row : ∀ (x : Int64) (H : Heap) (locs : List Loc) (ls : Array Slot) (vs : List Value), W p l e R s m args below meth c H locs k n Q (F0 m (pc + 1) ls (.long (-x) :: vs)) → W p l e R s m args below meth c H locs k n Q (F0 m pc ls (.long x :: vs))) : XSat p l e R s m args below meth c Q nL D cl tA A as0 ex (pc, lv, st, w, k, n) := by
  match st, h with
  | .inr (.inl (some a)) :: st, h =>
    cases h
    intro H locs ls vs lw ws ⟨h1, h2, h3, h4, h5, h6, h7, h8⟩
    obtain ⟨_, vs', rfl, ⟨x, rfl, hx⟩, h2⟩ := h2
    refine row x H locs ls vs' (hr H locs ls _ lw ws ⟨h1, ⟨_, vs', rfl, ⟨-x, rfl, fun z hz => ?_⟩, h2⟩, h3, h4, h5, h6, h7, h8⟩)
    rw [x_oneL hx] at hz
    exact Option.some.inj hz
  | .inr (.inl none) :: st, h =>
    cases h
    intro H locs ls vs lw ws ⟨h1, h2, h3, h4, h5, h6, h7, h8⟩
    obtain ⟨_, vs', rfl, ⟨x, rfl, hx⟩, h2⟩ := h2
    exact row x H locs ls vs' (hr H locs ls _ lw ws ⟨h1, ⟨_, vs', rfl, ⟨-x, rfl, fun z hz => by cases hz⟩, h2⟩, h3, h4, h5, h6, h7, h8⟩)
theorem xo_lbin {g : Int64 → Int64 → Int64} (h : xh_lbin (xl2 g) pc lv st w k n = some r) (hr : XRs p l e R s m args below meth c Q cc nL D cl tA A as0 ex ret r) (row : ∀ (x y : Int64) (H : Heap) (locs : List Loc) (ls : Array Slot) (vs : List Value), W p l e R s m args below meth c H locs k n Q (F0 m (pc + 1) ls (.long (g x y) :: vs)) → W p l e R s m args below meth c H locs k n Q (F0 m pc ls (.long y :: .long x :: vs))) : XSat p l e R s m args below meth c Q nL D cl tA A as0 ex (pc, lv, st, w, k, n) := by
  match st, h with
  | .inr (.inl q) :: .inr (.inl p0) :: st, h =>
    cases h
    intro H locs ls vs lw ws ⟨h1, h2, h3, h4, h5, h6, h7, h8⟩
    obtain ⟨_, _, rfl, ⟨y, rfl, hy⟩, _, vs', rfl, ⟨x, rfl, hx⟩, h2⟩ := h2
    exact row x y H locs ls vs' (hr H locs ls _ lw ws ⟨h1, ⟨_, vs', rfl, ⟨g x y, rfl, xl2_in g hx hy⟩, h2⟩, h3, h4, h5, h6, h7, h8⟩)
theorem xo_lsh {g : Int64 → Int32 → Int64} (h0 : ∀ y, g 0 y = 0) (h : xh_lsh (xls g) pc lv st w k n = some r) (hr : XRs p l e R s m args below meth c Q cc nL D cl tA A as0 ex ret r) (row : ∀ (x : Int64) (y : Int32) (H : Heap) (locs : List Loc) (ls : Array Slot) (vs : List Value), W p l e R s m args below meth c H locs k n Q (F0 m (pc + 1) ls (.long (g x y) :: vs)) → W p l e R s m args below meth c H locs k n Q (F0 m pc ls (.int y :: .long x :: vs))) : XSat p l e R s m args below meth c Q nL D cl tA A as0 ex (pc, lv, st, w, k, n) := by
  match st, h with
  | .inl q :: .inr (.inl p0) :: st, h =>
    cases h
    intro H locs ls vs lw ws ⟨h1, h2, h3, h4, h5, h6, h7, h8⟩
    obtain ⟨_, _, rfl, ⟨y, rfl, y1, y2⟩, _, vs', rfl, ⟨x, rfl, hx⟩, h2⟩ := h2
    exact row x y H locs ls vs' (hr H locs ls _ lw ws ⟨h1, ⟨_, vs', rfl, ⟨g x y, rfl, xls_in g h0 hx y1 y2⟩, h2⟩, h3, h4, h5, h6, h7, h8⟩)
theorem xo_i2l (h : xh_i2l pc lv st w k n = some r) (hr : XRs p l e R s m args below meth c Q cc nL D cl tA A as0 ex ret r) (row : ∀ (x : Int32) (H : Heap) (locs : List Loc) (ls : Array Slot) (vs : List Value), W p l e R s m args below meth c H locs k n Q (F0 m (pc + 1) ls (.long x.toInt64 :: vs)) → W p l e R s m args below meth c H locs k n Q (F0 m pc ls (.int x :: vs))) : XSat p l e R s m args below meth c Q nL D cl tA A as0 ex (pc, lv, st, w, k, n) := by
  match st, h with
  | .inl q :: st, h =>
    cases h
    intro H locs ls vs lw ws ⟨h1, h2, h3, h4, h5, h6, h7, h8⟩
    obtain ⟨_, vs', rfl, ⟨x, rfl, x1, x2⟩, h2⟩ := h2
    refine row x H locs ls vs' (hr H locs ls _ lw ws ⟨h1, ⟨_, vs', rfl, ⟨x.toInt64, rfl, fun z hz => ?_⟩, h2⟩, h3, h4, h5, h6, h7, h8⟩)
    rw [Int32.toInt_toInt64]
    by_cases he : q.1 = q.2
    · rw [if_pos he] at hz
      cases hz
      omega
    · rw [if_neg he] at hz
      cases hz
theorem xo_l2i (h : xh_l2i pc lv st w k n = some r) (hr : XRs p l e R s m args below meth c Q cc nL D cl tA A as0 ex ret r) (row : ∀ (x : Int64) (H : Heap) (locs : List Loc) (ls : Array Slot) (vs : List Value), W p l e R s m args below meth c H locs k n Q (F0 m (pc + 1) ls (.int x.toInt32 :: vs)) → W p l e R s m args below meth c H locs k n Q (F0 m pc ls (.long x :: vs))) : XSat p l e R s m args below meth c Q nL D cl tA A as0 ex (pc, lv, st, w, k, n) := by
  match st, h with
  | .inr (.inl (some a)) :: st, h =>
    cases h
    intro H locs ls vs lw ws ⟨h1, h2, h3, h4, h5, h6, h7, h8⟩
    obtain ⟨_, vs', rfl, ⟨x, rfl, hx⟩, h2⟩ := h2
    refine row x H locs ls vs' (hr H locs ls _ lw ws ⟨h1, ⟨_, vs', rfl, ⟨x.toInt32, rfl, ?_⟩, h2⟩, h3, h4, h5, h6, h7, h8⟩)
    rw [x_oneL hx]
    exact ⟨Int.le_refl _, Int.le_refl _⟩
  | .inr (.inl none) :: st, h =>
    cases h
    intro H locs ls vs lw ws ⟨h1, h2, h3, h4, h5, h6, h7, h8⟩
    obtain ⟨_, vs', rfl, ⟨x, rfl, hx⟩, h2⟩ := h2
    exact row x H locs ls vs' (hr H locs ls _ lw ws ⟨h1, ⟨_, vs', rfl, ⟨x.toInt32, rfl, x_rng _⟩, h2⟩, h3, h4, h5, h6, h7, h8⟩)
theorem x_cmpr (x y : Int64) : (lg_cmp x y).toInt = if x.toInt < y.toInt then -1 else if x.toInt = y.toInt then 0 else 1 := by
  unfold lg_cmp
  simp only [gt_iff_lt, Int64.lt_iff_toInt_lt, ← Int64.toInt_inj]
  repeat' split
  all_goals first | omega | rfl
theorem xo_lcmp (h : xh_lcmp pc lv st w k n = some r) (hr : XRs p l e R s m args below meth c Q cc nL D cl tA A as0 ex ret r) (row : ∀ (x y : Int64) (H : Heap) (locs : List Loc) (ls : Array Slot) (vs : List Value), W p l e R s m args below meth c H locs k n Q (F0 m (pc + 1) ls (.int (lg_cmp x y) :: vs)) → W p l e R s m args below meth c H locs k n Q (F0 m pc ls (.long y :: .long x :: vs))) : XSat p l e R s m args below meth c Q nL D cl tA A as0 ex (pc, lv, st, w, k, n) := by
  have any : ∀ (a b : Option Int) (st' : List XV), st = .inr (.inl b) :: .inr (.inl a) :: st' → r = .inl (pc + 1, lv, .inl (-1, 1) :: st', w, k, n) → XSat p l e R s m args below meth c Q nL D cl tA A as0 ex (pc, lv, st, w, k, n) := by
    intro a b st' e1 e2
    subst e1; subst e2
    intro H locs ls vs lw ws ⟨h1, h2, h3, h4, h5, h6, h7, h8⟩
    obtain ⟨_, _, rfl, ⟨y, rfl, hy⟩, _, vs', rfl, ⟨x, rfl, hx⟩, h2⟩ := h2
    refine row x y H locs ls vs' (hr H locs ls _ lw ws ⟨h1, ⟨_, vs', rfl, ⟨lg_cmp x y, rfl, ?_⟩, h2⟩, h3, h4, h5, h6, h7, h8⟩)
    rw [x_cmpr]
    repeat' split
    all_goals (constructor <;> decide)
  match st, h with
  | .inr (.inl (some b)) :: .inr (.inl (some a)) :: st, h =>
    cases h
    intro H locs ls vs lw ws ⟨h1, h2, h3, h4, h5, h6, h7, h8⟩
    obtain ⟨_, _, rfl, ⟨y, rfl, hy⟩, _, vs', rfl, ⟨x, rfl, hx⟩, h2⟩ := h2
    refine row x y H locs ls vs' (hr H locs ls _ lw ws ⟨h1, ⟨_, vs', rfl, ⟨lg_cmp x y, rfl, ?_⟩, h2⟩, h3, h4, h5, h6, h7, h8⟩)
    rw [x_cmpr, hx a rfl, hy b rfl]
    exact ⟨Int.le_refl _, Int.le_refl _⟩
  | .inr (.inl none) :: .inr (.inl a) :: st, h => exact any a none st rfl (Option.some.inj h).symm
  | .inr (.inl (some b)) :: .inr (.inl none) :: st, h => exact any none (some b) st rfl (Option.some.inj h).symm
theorem xo_dup (h : xh_dup pc lv st w k n = some r) (hr : XRs p l e R s m args below meth c Q cc nL D cl tA A as0 ex ret r) (row : ∀ (v : Value) (H : Heap) (locs : List Loc) (ls : Array Slot) (vs : List Value), v.category = 1 → W p l e R s m args below meth c H locs k n Q (F0 m (pc + 1) ls (v :: v :: vs)) → W p l e R s m args below meth c H locs k n Q (F0 m pc ls (v :: vs))) : XSat p l e R s m args below meth c Q nL D cl tA A as0 ex (pc, lv, st, w, k, n) := by
  match st, h with
  | x :: st, h =>
    unfold xh_dup at h
    dsimp only at h
    by_cases hc : xcat x = 1
    · rw [if_pos hc] at h
      cases h
      intro H locs ls vs lw ws ⟨h1, h2, h3, h4, h5, h6, h7, h8⟩
      obtain ⟨v, vs', rfl, hv, h2⟩ := h2
      exact row v H locs ls vs' (hv.cat.trans hc) (hr H locs ls _ lw ws ⟨h1, ⟨v, _, rfl, hv, v, vs', rfl, hv, h2⟩, h3, h4, h5, h6, h7, h8⟩)
    · rw [if_neg hc] at h
      cases h
theorem x_cat1 {x : XV} (h : ¬ xcat x = 2) : xcat x = 1 := by
  match x, h with
  | .inl _, _ => rfl
  | .inr (.inl _), h => exact absurd rfl h
  | .inr (.inr _), _ => rfl
theorem xo_dup2 (hx : p.tables.exec = Jvm.exec) (hb : c.code = cc) (hd : decode cc pc = .ok (.dup2, 1)) (h : xh_dup2 pc lv st w k n = some r) (hr : XRs p l e R s m args below meth c Q cc nL D cl tA A as0 ex ret r) : XSat p l e R s m args below meth c Q nL D cl tA A as0 ex (pc, lv, st, w, k, n) := by
  match st, h with
  | x :: st, h =>
    unfold xh_dup2 at h
    dsimp only at h
    by_cases hc : xcat x = 2
    · rw [if_pos hc] at h
      cases h
      intro H locs ls vs lw ws ⟨h1, h2, h3, h4, h5, h6, h7, h8⟩
      obtain ⟨v, vs', rfl, hv, h2⟩ := h2
      exact lv_dup2_2 hx hb hd (hv.cat.trans hc) (hr H locs ls _ lw ws ⟨h1, ⟨v, _, rfl, hv, v, vs', rfl, hv, h2⟩, h3, h4, h5, h6, h7, h8⟩)
    · rw [if_neg hc] at h
      match st, h with
      | y :: st, h =>
        dsimp only at h
        by_cases hy : xcat y = 1
        · rw [if_pos hy] at h
          cases h
          intro H locs ls vs lw ws ⟨h1, h2, h3, h4, h5, h6, h7, h8⟩
          obtain ⟨v, _, rfl, hv, u, vs', rfl, hu, h2⟩ := h2
          exact lv_dup2_11 hx hb hd (hv.cat.trans (x_cat1 hc)) (hu.cat.trans hy) (hr H locs ls _ lw ws ⟨h1, ⟨v, _, rfl, hv, u, _, rfl, hu, v, _, rfl, hv, u, vs', rfl, hu, h2⟩, h3, h4, h5, h6, h7, h8⟩)
        · rw [if_neg hy] at h
          cases h
/-- a branch that is decided -/
theorem xo_br {P : Prop} {o : Option Bool} {tgt : Nat} {st' : List XV} {H : Heap} {locs : List Loc} {ls : Array Slot} {vs : List Value} {lw : List (Nat × Value)} {ws : va_W} (ho : ∀ b, o = some b → (P ↔ b = true)) (h : xh_br o tgt pc lv st' w k n = some r) (hr : XRs p l e R s m args below meth c Q cc nL D cl tA A as0 ex ret r) (hat : XAt s nL D cl tA A as0 ex lv st' w H locs ls vs lw ws) : (P → W p l e R s m args below meth c H locs k n Q (F0 m tgt ls vs)) ∧ (¬ P → W p l e R s m args below meth c H locs k n Q (F0 m (pc + 3) ls vs)) := by
  match o, h with
  | some true, h =>
    cases h
    exact ⟨fun _ => hr H locs ls vs lw ws hat, fun hn => absurd ((ho true rfl).mpr rfl) hn⟩
  | some false, h =>
    cases h
    exact ⟨fun hp => (by cases (ho false rfl).mp hp), fun _ => hr H locs ls vs lw ws hat⟩
theorem xo_if {q : ClassFile.Cond} {off : Int} {tgt : Nat} (hx : p.tables.exec = Jvm.exec) (hb : c.code = cc) (hd : decode cc pc = .ok (.ifCond q off, 3)) (ht : (pc : Int) + off = (tgt : Int)) (h : xh_if q tgt pc lv st w k n = some r) (hr : XRs p l e R s m args below meth c Q cc nL D cl tA A as0 ex ret r) : XSat p l e R s m args below meth c Q nL D cl tA A as0 ex (pc, lv, st, w, k, n) := by
  match st, h with
  | .inl p0 :: st, h =>
    intro H locs ls vs lw ws ⟨h1, h2, h3, h4, h5, h6, h7, h8⟩
    obtain ⟨_, vs', rfl, ⟨x, rfl, x1, x2⟩, h2⟩ := h2
    have h : xh_br (xcmp q p0 (0, 0)) tgt pc lv st w k n = some r := h
    have hat : XAt s nL D cl tA A as0 ex lv st w H locs ls vs' lw ws := ⟨h1, h2, h3, h4, h5, h6, h7, h8⟩
    have z1 : ((0 : Int), (0 : Int)).1 ≤ (0 : Int32).toInt := Int.le_refl _
    have z2 : (0 : Int32).toInt ≤ ((0 : Int), (0 : Int)).2 := Int.le_refl _
    cases q with
    | eq =>
      obtain ⟨a, b⟩ := xo_br (P := x = 0) (fun b hb' => xeq_in x1 x2 z1 z2 hb') h hr hat
      exact lv_if_eq hx hb hd ht a b
    | ne =>
      obtain ⟨a, b⟩ := xo_br (P := ¬ x = 0) (fun b hb' => xno_in hb' (fun _ hb' => xeq_in x1 x2 z1 z2 hb')) h hr hat
      exact lv_if_ne hx hb hd ht a (fun hh => b (fun hn => hn hh))
    | lt =>
      obtain ⟨a, b⟩ := xo_br (P := x < 0) (fun b hb' => xlt_in x1 x2 z1 z2 hb') h hr hat
      exact lv_if_lt hx hb hd ht a b
    | ge =>
      obtain ⟨a, b⟩ := xo_br (P := ¬ x < 0) (fun b hb' => xno_in hb' (fun _ hb' => xlt_in x1 x2 z1 z2 hb')) h hr hat
      exact lv_if_ge hx hb hd ht (fun hh => a (Int32.not_lt.mpr hh)) (fun hh => b (fun h2 => hh (Int32.not_lt.mp h2)))
    | gt =>
      obtain ⟨a, b⟩ := xo_br (P := 0 < x) (fun b hb' => xlt_in z1 z2 x1 x2 hb') h hr hat
      exact lv_if_gt hx hb hd ht a b
    | le =>
      obtain ⟨a, b⟩ := xo_br (P := ¬ 0 < x) (fun b hb' => xno_in hb' (fun _ hb' => xlt_in z1 z2 x1 x2 hb')) h hr hat
      exact lv_if_le hx hb hd ht (fun hh => a (Int32.not_lt.mpr hh)) (fun hh => b (fun h2 => hh (Int32.not_lt.mp h2)))
theorem xo_icmp {q : ClassFile.Cond} {off : Int} {tgt : Nat} (hx : p.tables.exec = Jvm.exec) (hb : c.code = cc) (hd : decode cc pc = .ok (.if_icmp q off, 3)) (ht : (pc : Int) + off = (tgt : Int)) (h : xh_icmp q tgt pc lv st w k n = some r) (hr : XRs p l e R s m args below meth c Q cc nL D cl tA A as0 ex ret r) : XSat p l e R s m args below meth c Q nL D cl tA A as0 ex (pc, lv, st, w, k, n) := by
  match st, h with
  | .inl q0 :: .inl p0 :: st, h =>
    intro H locs ls vs lw ws ⟨h1, h2, h3, h4, h5, h6, h7, h8⟩
    obtain ⟨_, _, rfl, ⟨y, rfl, z1, z2⟩, _, vs', rfl, ⟨x, rfl, x1, x2⟩, h2⟩ := h2
    have h : xh_br (xcmp q p0 q0) tgt pc lv st w k n = some r := h
    have hat : XAt s nL D cl tA A as0 ex lv st w H locs ls vs' lw ws := ⟨h1, h2, h3, h4, h5, h6, h7, h8⟩
    cases q with
    | eq =>
      obtain ⟨a, b⟩ := xo_br (P := x = y) (fun b hb' => xeq_in x1 x2 z1 z2 hb') h hr hat
      exact lv_icmp_eq hx hb hd ht a b
    | ne =>
      obtain ⟨a, b⟩ := xo_br (P := ¬ x = y) (fun b hb' => xno_in hb' (fun _ hb' => xeq_in x1 x2 z1 z2 hb')) h hr hat
      exact lv_icmp_ne hx hb hd ht a (fun hh => b (fun hn => hn hh))
    | lt =>
      obtain ⟨a, b⟩ := xo_br (P := x < y) (fun b hb' => xlt_in x1 x2 z1 z2 hb') h hr hat
      exact lv_icmp_lt hx hb hd ht a b
    | ge =>
      obtain ⟨a, b⟩ := xo_br (P := ¬ x < y) (fun b hb' => xno_in hb' (fun _ hb' => xlt_in x1 x2 z1 z2 hb')) h hr hat
      exact lv_icmp_ge hx hb hd ht (fun hh => a (Int32.not_lt.mpr hh)) (fun hh => b (fun h2 => hh (Int32.not_lt.mp h2)))
    | gt =>
      obtain ⟨a, b⟩ := xo_br (P := y < x) (fun b hb' => xlt_in z1 z2 x1 x2 hb') h hr hat
      exact lv_icmp_gt hx hb hd ht a b
    | le =>
      obtain ⟨a, b⟩ := xo_br (P := ¬ y < x) (fun b hb' => xno_in hb' (fun _ hb' => xlt_in z1 z2 x1 x2 hb')) h hr hat
      exact lv_icmp_le hx hb hd ht (fun hh => a (Int32.not_lt.mpr hh)) (fun hh => b (fun h2 => hh (Int32.not_lt.mp h2)))
theorem xo_ifnull {off : Int} {tgt : Nat} (hx : p.tables.exec = Jvm.exec) (hb : c.code = cc) (hd : decode cc pc = .ok (.ifnull off, 3)) (ht : (pc : Int) + off = (tgt : Int)) (h : xh_null false tgt pc lv st w k n = some r) (hr : XRs p l e R s m args below meth c Q cc nL D cl tA A as0 ex ret r) : XSat p l e R s m args below meth c Q nL D cl tA A as0 ex (pc, lv, st, w, k, n) := by
  match st, h with
  | .inr (.inr q) :: st, h =>
    intro H locs ls vs lw ws ⟨h1, h2, h3, h4, h5, h6, h7, h8⟩
    obtain ⟨v, vs', rfl, hv, h2⟩ := h2
    have hat : XAt s nL D cl tA A as0 ex lv st w H locs ls vs' lw ws := ⟨h1, h2, h3, h4, h5, h6, h7, h8⟩
    unfold xh_null at h
    dsimp only at h
    rcases hv with ⟨h0, rfl⟩ | ⟨a, rfl, ha⟩
    · rw [if_neg (by rw [h0]; decide)] at h
      cases h
      exact lv_ifnullN hx hb hd ht (hr H locs ls vs' lw ws hat)
    · have hq : (q.1 == 0) = false := by
        rcases ha with ⟨e1, _⟩ | ⟨e1, _⟩ <;> rw [e1] <;> rfl
      rw [if_pos (by rw [hq]; decide)] at h
      cases h
      exact lv_ifnull hx hb hd (hr H locs ls vs' lw ws hat)
theorem xo_ifnonnull {off : Int} {tgt : Nat} (hx : p.tables.exec = Jvm.exec) (hb : c.code = cc) (hd : decode cc pc = .ok (.ifnonnull off, 3)) (ht : (pc : Int) + off = (tgt : Int)) (h : xh_null true tgt pc lv st w k n = some r) (hr : XRs p l e R s m args below meth c Q cc nL D cl tA A as0 ex ret r) : XSat p l e R s m args below meth c Q nL D cl tA A as0 ex (pc, lv, st, w, k, n) := by
  match st, h with
  | .inr (.inr q) :: st, h =>
    intro H locs ls vs lw ws ⟨h1, h2, h3, h4, h5, h6, h7, h8⟩
    obtain ⟨v, vs', rfl, hv, h2⟩ := h2
    have hat : XAt s nL D cl tA A as0 ex lv st w H locs ls vs' lw ws := ⟨h1, h2, h3, h4, h5, h6, h7, h8⟩
    unfold xh_null at h
    dsimp only at h
    rcases hv with ⟨h0, rfl⟩ | ⟨a, rfl, ha⟩
    · rw [if_pos (by rw [h0]; decide)] at h
      cases h
      exact lv_ifnonnullN hx hb hd (hr H locs ls vs' lw ws hat)
    · have hq : (q.1 == 0) = false := by
        rcases ha with ⟨e1, _⟩ | ⟨e1, _⟩ <;> rw [e1] <;> rfl
      rw [if_neg (by rw [hq]; decide)] at h
      cases h
      exact lv_ifnonnull hx hb hd ht (hr H locs ls vs' lw ws hat)
theorem xo_table {dflt lo hi : Int} {offs : Array Int} {len : Nat} (hx : p.tables.exec = Jvm.exec) (hb : c.code = cc) (hd : decode cc pc = .ok (.tableswitch dflt lo hi offs, len)) (h : xh_table dflt lo hi offs pc lv st w k n = some r) (hr : XRs p l e R s m args below meth c Q cc nL D cl tA A as0 ex ret r) : XSat p l e R s m args below meth c Q nL D cl tA A as0 ex (pc, lv, st, w, k, n) := by
  match st, h with
  | .inl q :: st, h =>
    intro H locs ls vs lw ws ⟨h1, h2, h3, h4, h5, h6, h7, h8⟩
    obtain ⟨_, vs', rfl, ⟨x, rfl, x1, x2⟩, h2⟩ := h2
    have hat : XAt s nL D cl tA A as0 ex lv st w H locs ls vs' lw ws := ⟨h1, h2, h3, h4, h5, h6, h7, h8⟩
    unfold xh_table at h
    dsimp only at h
    by_cases ho : q.2 < lo ∨ hi < q.1
    · rw [if_pos ho] at h
      by_cases hp : 0 ≤ (pc : Int) + dflt
      · rw [if_pos hp] at h
        cases h
        exact lv_tableOut hx hb hd (by omega) (Int.toNat_of_nonneg hp).symm (hr H locs ls vs' lw ws hat)
      · rw [if_neg hp] at h
        cases h
    · rw [if_neg ho] at h
      by_cases hq : q.1 = q.2
      · rw [if_pos hq] at h
        have e0 : x.toInt = q.1 := by omega
        cases hf : offs[(q.1 - lo).toNat]? with
        | none => rw [hf] at h; cases h
        | some off =>
          rw [hf] at h
          dsimp only at h
          by_cases hp : 0 ≤ (pc : Int) + off
          · rw [if_pos hp] at h
            cases h
            exact lv_tableIn hx hb hd (by omega) (by omega) (by rw [e0]; exact hf) (Int.toNat_of_nonneg hp).symm (hr H locs ls vs' lw ws hat)
          · rw [if_neg hp] at h
            cases h
      · rw [if_neg hq] at h
        cases h
end XO
end
section
/-! ===== rows, objects, calls ===== -/
theorem xv_in.nil {as ex : List Nat} : ∀ {x : XV} {v : Value}, xv_in [] [] x v → xv_in as ex x v
  | .inl _, _, h => h
  | .inr (.inl _), _, h => h
  | .inr (.inr q), v, h => by
    rcases h with h | ⟨a, _, ⟨_, h2⟩ | ⟨_, h2⟩⟩
    · exact Or.inl h
    · simp at h2
    · simp at h2
theorem x_ofNat {k : Nat} (h : k < 2147483648) : (Int32.ofNat k).toInt = (k : Int) := nI_toInt (n := k) h
/-- what the tables say of the kinds of arrays -/
def xty (tys : List (ClassId × FieldType)) (tA : Nat → ClassId) : Prop := tys[0]? = some (tA 0, .int) ∧ tys[1]? = some (tA 1, .long) ∧ tys[2]? = some (tA 2, .boolean) ∧ ∀ t, 3 ≤ t → t < 7 → ∃ C, tys[t]? = some (tA t, .object C)
/-- a row that lies outside of the world -/
def xext (A : Nat → Prop) (ex : List Nat) (exc : List (List XV)) (U : State) : Prop := ∀ (j a : Nat) (es : List XV), ex[j]? = some a → exc[j]? = some es → ∃ f, va_T .int a es.length f A U U.heap ∧ ∀ (i : Nat) (x : XV), es[i]? = some x → xv_in [] [] x (f i)
section XO
variable {p : Program} {l : Launch} {e : Env} {R : Room} {s : State} {m : MethodId} {args : Array Value} {below : List Frame} {meth : Method} {c : Code} {Q : State → Prop} {cc : ByteArray} {nL : Nat} {D : va_G} {cl : List vw_C} {tys : List (ClassId × FieldType)} {tA : Nat → ClassId} {A : Nat → Prop} {as0 ex : List Nat} {exc : List (List XV)} {ret : Option FieldType} {pc : Nat} {lv : XL} {st : List XV} {w : XW} {k n : Nat} {r : XR}
theorem xarr_in {q : Nat × Nat} {t : Nat} {es : List XV} {v : Value} {ws : va_W} (hw : xw_in ex tA w ws) (h : xarr w exc q = some (t, es)) (hv : xv_in (xad ws) ex (.inr (.inr q)) v) : ∃ a : Nat, v = .ref a ∧ ((q.1 = 1 ∧ ∃ x : vp_A, ws[q.2]? = some (a, .inl (tA t, x)) ∧ x.1 = es.length ∧ xa_k t x ∧ ∀ (j : Nat) (y : XV), es[j]? = some y → xv_in (xad ws) ex y (xa_get x j)) ∨ (t = 0 ∧ ∃ j : Nat, ex[j]? = some a ∧ exc[j]? = some es)) := by
  unfold xarr at h
  by_cases h1 : q.1 = 1
  · rw [if_pos h1] at h
    cases hc : w[q.2]? with
    | none => rw [hc] at h; cases h
    | some z =>
      rw [hc] at h
      match z, hc, h with
      | .inl _, _, h => cases h
      | .inr o, hc, h =>
        cases h
        rcases hv with ⟨h0, _⟩ | ⟨a, rfl, ⟨_, ha⟩ | ⟨h2, _⟩⟩
        · omega
        · obtain ⟨e0, g1, x, rfl, g2, g3, g4⟩ := hw.at hc ha
          exact ⟨a, rfl, Or.inl ⟨h1, x, g1, g2, g3, g4⟩⟩
        · omega
  · rw [if_neg h1] at h
    by_cases h2 : q.1 = 2
    · rw [if_pos h2] at h
      cases hc : exc[q.2]? with
      | none => rw [hc] at h; cases h
      | some z =>
        rw [hc] at h
        cases h
        rcases hv with ⟨h0, _⟩ | ⟨a, rfl, ⟨h3, _⟩ | ⟨_, ha⟩⟩
        · omega
        · omega
        · exact ⟨a, rfl, Or.inr ⟨rfl, q.2, ha, hc⟩⟩
    · rw [if_neg h2] at h
      cases h
theorem xo_ald {ty kd : Nat} {i : Instr} (hi : (i = .iaload ∧ ty = 0 ∧ kd = 0) ∨ (i = .laload ∧ ty = 1 ∧ kd = 1) ∨ (i = .baload ∧ ty = 2 ∧ kd = 0) ∨ (i = .aaload ∧ ty = 3 ∧ kd = 2)) (hx : p.tables.exec = Jvm.exec) (hb : c.code = cc) (hd : decode cc pc = .ok (i, 1)) (hK : va_K D cl tys s) (hT : xty tys tA) (hE : xext A ex exc s) (h : xh_ald ty kd exc pc lv st w k n = some r) (hr : XRs p l e R s m args below meth c Q cc nL D cl tA A as0 ex ret r) : XSat p l e R s m args below meth c Q nL D cl tA A as0 ex (pc, lv, st, w, k, n) := by
  match st, h with
  | .inl z :: .inr (.inr q) :: st, h =>
    unfold xh_ald at h
    dsimp only at h
    cases ha : xarr w exc q with
    | none => rw [ha] at h; cases h
    | some o =>
      obtain ⟨t, es⟩ := o
      rw [ha] at h
      dsimp only at h
      by_cases ht : ty = t ∨ (ty = 3 ∧ 3 ≤ t)
      · rw [if_pos ht] at h
        cases hv : xread es z with
        | none => rw [hv] at h; cases h
        | some y =>
          rw [hv] at h
          dsimp only at h
          by_cases hk : xkd y = kd
          · rw [if_pos hk] at h
            cases h
            intro H locs ls vs lw ws ⟨h1, h2, h3, h4, h5, h6, h7, h8⟩
            obtain ⟨_, _, rfl, ⟨j, rfl, j1, j2⟩, v, vs', rfl, hq, h2⟩ := h2
            obtain ⟨hin, y0, hy0, hyy⟩ := xread_in (as := xad ws) (ex := ex) hv j1 j2
            obtain ⟨a, rfl, hc⟩ := xarr_in h3 ha hq
            rcases hc with ⟨-, x, g1, g2, g3, g4⟩ | ⟨t0, b, g1, g2⟩
            · have hval := hyy _ (g4 _ _ hy0)
              have go : W p l e R s m args below meth c H locs k n Q (F0 m (pc + 1) ls (xa_get x j.toNatClampNeg :: vs')) := hr H locs ls _ lw ws ⟨h1, ⟨_, vs', rfl, hval, h2⟩, h3, h4, h5, h6, h7, h8⟩
              obtain ⟨N, u⟩ := x
              have g2 : N = es.length := g2
              subst g2
              match u, g1, g3, go with
              | .inl f, g1, g3, go =>
                have g3 : t = 0 ∨ t = 2 := g3
                rcases hi with ⟨rfl, rfl, rfl⟩ | ⟨rfl, rfl, rfl⟩ | ⟨rfl, rfl, rfl⟩ | ⟨rfl, rfl, rfl⟩
                · have t0 : t = 0 := by omega
                  subst t0
                  exact va_iald hx hb hK h4 q.2 0 g1 hT.1 hin hd go
                · omega
                · have t0 : t = 2 := by omega
                  subst t0
                  exact va_zald hx hb hK h4 q.2 2 g1 hT.2.2.1 hin hd go
                · omega
              | .inr (.inl f), g1, g3, go =>
                have g3 : t = 1 := g3
                subst g3
                rcases hi with ⟨rfl, rfl, rfl⟩ | ⟨rfl, rfl, rfl⟩ | ⟨rfl, rfl, rfl⟩ | ⟨rfl, rfl, rfl⟩
                · omega
                · exact va_lald hx hb hK h4 q.2 1 g1 hT.2.1 hin hd go
                · omega
                · omega
              | .inr (.inr (.inl f)), _, g3, _ => exact absurd g3 id
              | .inr (.inr (.inr (.inl f))), _, g3, _ => exact absurd g3 id
              | .inr (.inr (.inr (.inr f))), g1, g3, go =>
                have g3 : 3 ≤ t ∧ t < 7 := g3
                obtain ⟨C, hC⟩ := hT.2.2.2 t g3.1 g3.2
                rcases hi with ⟨rfl, rfl, rfl⟩ | ⟨rfl, rfl, rfl⟩ | ⟨rfl, rfl, rfl⟩ | ⟨rfl, rfl, rfl⟩
                · omega
                · omega
                · omega
                · exact va_aldq hx hb hK h4 q.2 t g1 hC hin hd go
            · subst t0
              rcases hi with ⟨rfl, rfl, rfl⟩ | ⟨rfl, rfl, rfl⟩ | ⟨rfl, rfl, rfl⟩ | ⟨rfl, rfl, rfl⟩
              · obtain ⟨f, f1, f2⟩ := hE b a es g1 g2
                exact va_ti hx hb f1 h6 hin rfl hd (hr H locs ls _ lw ws ⟨h1, ⟨_, vs', rfl, hyy _ (f2 _ _ hy0).nil, h2⟩, h3, h4, h5, h6, h7, h8⟩)
              · omega
              · omega
              · omega
          · rw [if_neg hk] at h
            cases h
      · rw [if_neg ht] at h
        cases h
theorem xo_alen (hx : p.tables.exec = Jvm.exec) (hb : c.code = cc) (hd : decode cc pc = .ok (.arraylength, 1)) (hK : va_K D cl tys s) (hT : xty tys tA) (hE : xext A ex exc s) (h : xh_alen exc pc lv st w k n = some r) (hr : XRs p l e R s m args below meth c Q cc nL D cl tA A as0 ex ret r) : XSat p l e R s m args below meth c Q nL D cl tA A as0 ex (pc, lv, st, w, k, n) := by
  match st, h with
  | .inr (.inr q) :: st, h =>
    unfold xh_alen at h
    dsimp only at h
    cases ha : xarr w exc q with
    | none => rw [ha] at h; cases h
    | some o =>
      obtain ⟨t, es⟩ := o
      rw [ha] at h
      dsimp only at h
      by_cases hl : es.length < 2147483648
      · rw [if_pos hl] at h
        cases h
        intro H locs ls vs lw ws ⟨h1, h2, h3, h4, h5, h6, h7, h8⟩
        obtain ⟨v, vs', rfl, hq, h2⟩ := h2
        obtain ⟨a, rfl, hc⟩ := xarr_in h3 ha hq
        have go : W p l e R s m args below meth c H locs k n Q (F0 m (pc + 1) ls (.int (Int32.ofNat es.length) :: vs')) := hr H locs ls _ lw ws ⟨h1, ⟨_, vs', rfl, ⟨Int32.ofNat es.length, rfl, by rw [x_ofNat hl]; exact Int.le_refl _, by rw [x_ofNat hl]; exact Int.le_refl _⟩, h2⟩, h3, h4, h5, h6, h7, h8⟩
        rcases hc with ⟨-, x, g1, g2, g3, g4⟩ | ⟨t0, b, g1, g2⟩
        · have hty : ∃ ty, tys[t]? = some (tA t, ty) := by
            obtain ⟨N, u⟩ := x
            match u, g3 with
            | .inl f, g3 =>
              have g3 : t = 0 ∨ t = 2 := g3
              rcases g3 with rfl | rfl
              · exact ⟨_, hT.1⟩
              · exact ⟨_, hT.2.2.1⟩
            | .inr (.inl f), g3 =>
              have g3 : t = 1 := g3
              subst g3
              exact ⟨_, hT.2.1⟩
            | .inr (.inr (.inl f)), g3 => exact absurd g3 id
            | .inr (.inr (.inr (.inl f))), g3 => exact absurd g3 id
            | .inr (.inr (.inr (.inr f))), g3 =>
              obtain ⟨C, hC⟩ := hT.2.2.2 t g3.1 g3.2
              exact ⟨_, hC⟩
          obtain ⟨ty, hty⟩ := hty
          exact va_alen hx hb hK h4 q.2 t g1 hty (by rw [g2]) hd go
        · obtain ⟨f, f1, f2⟩ := hE b a es g1 g2
          exact va_tlen hx hb f1 h6 rfl hd go
      · rw [if_neg hl] at h
        cases h
theorem x_bool01 {x : XV} {as : List Nat} {y : Int32} (h : xbool x = true) (hv : xv_in as ex x (.int y)) : y = 0 ∨ y = 1 := by
  match x, h, hv with
  | .inl q, h, hv =>
    obtain ⟨u, e1, h1, h2⟩ := hv
    cases e1
    have h : decide (0 ≤ q.1 ∧ q.2 ≤ 1) = true := h
    have h := of_decide_eq_true h
    rcases (show y.toInt = 0 ∨ y.toInt = 1 by omega) with e | e
    · exact Or.inl (Int32.toInt_inj.mp (e.trans rfl))
    · exact Or.inr (Int32.toInt_inj.mp (e.trans rfl))
/-- a store into a row of numbers -/
theorem xo_ast {ty kd : Nat} {i : Instr} (hi : (i = .iastore ∧ ty = 0 ∧ kd = 0) ∨ (i = .lastore ∧ ty = 1 ∧ kd = 1) ∨ (i = .bastore ∧ ty = 2 ∧ kd = 0)) (hz : ty = 2 → ∀ x st', st = x :: st' → xbool x = true) (hx : p.tables.exec = Jvm.exec) (hb : c.code = cc) (hd : decode cc pc = .ok (i, 1)) (hK : va_K D cl tys s) (hT : xty tys tA) (h : xh_ast ty kd pc lv st w k n = some r) (hr : XRs p l e R s m args below meth c Q cc nL D cl tA A as0 ex ret r) : XSat p l e R s m args below meth c Q nL D cl tA A as0 ex (pc, lv, st, w, k, n) := by
  match st, h with
  | x :: .inl z :: .inr (.inr q) :: st, h =>
    unfold xh_ast at h
    dsimp only at h
    by_cases hq1 : q.1 = 1 ∧ xkd x = kd
    · rw [if_pos hq1] at h
      cases hc : w[q.2]? with
      | none => rw [hc] at h; cases h
      | some o =>
        rw [hc] at h
        match o, hc, h with
        | .inl _, _, h => cases h
        | .inr (t, es), hc, h =>
          dsimp only at h
          by_cases ht : ty = t
          · rw [if_pos ht] at h
            subst ht
            cases hw : xwrite es z x with
            | none => rw [hw] at h; cases h
            | some es' =>
              rw [hw] at h
              cases h
              intro H locs ls vs lw ws ⟨h1, h2, h3, h4, h5, h6, h7, h8⟩
              obtain ⟨v, _, rfl, hv, _, _, rfl, ⟨j, rfl, j1, j2⟩, u, vs', rfl, hq, h2⟩ := h2
              obtain ⟨hin, hlen, hel⟩ := xwrite_in (as := xad ws) (ex := ex) hw j1 j2
              rcases hq with ⟨h0, _⟩ | ⟨a, rfl, ⟨_, ha⟩ | ⟨h0, _⟩⟩
              · omega
              · obtain ⟨e0, g1, X, rfl, g2, g3, g4⟩ := h3.at hc ha
                obtain ⟨N, F⟩ := X
                have g2 : N = es.length := g2
                subst g2
                have go : ∀ (X' : vp_A) (H1 : Heap) (locs1 : List Loc), X'.1 = es.length → xa_k ty X' → (xa_get X' j.toNatClampNeg = v) → (∀ j', j' ≠ j.toNatClampNeg → xa_get X' j' = xa_get (es.length, F) j') → va_P D cl (ws.set q.2 (a, .inl (tA ty, X'))) H1 → va_D A (ws.set q.2 (a, .inl (tA ty, X'))) → va_S A s.heap H1 locs1 → W p l e R s m args below meth c H1 locs1 k n Q (F0 m (pc + 1) ls vs') := by
                  intro X' H1 locs1 e1 e2 e3 e4 hP hD hS
                  refine hr H1 locs1 ls vs' lw (ws.set q.2 (a, .inl (tA ty, X'))) ⟨by rw [xad_set g1]; exact h1, by rw [xad_set g1]; exact h2, h3.set g1 ⟨X', rfl, by rw [e1, hlen], e2, fun j' y hy => ?_⟩, hP, hD, hS, h7, by rw [xad_set g1]; exact h8⟩
                  obtain ⟨b1, b2⟩ := hel j' y hy
                  by_cases hj : j' = j.toNatClampNeg
                  · rw [hj, e3]
                    exact b1 hj _ hv
                  · rw [e4 j' hj]
                    obtain ⟨y0, c1, c2⟩ := b2 hj
                    exact c2 _ (g4 j' y0 c1)
                have hkv := hv.vk
                rw [hq1.2] at hkv
                match F, g1, g3, go with
                | .inl f, g1, g3, go =>
                  have g3 : ty = 0 ∨ ty = 2 := g3
                  rcases hi with ⟨rfl, rfl, rfl⟩ | ⟨rfl, rfl, rfl⟩ | ⟨rfl, rfl, rfl⟩
                  · obtain ⟨y, rfl⟩ := hkv
                    refine va_iast hx hb hK h4 h5 h6 q.2 0 g1 hT.1 hin hd (fun H1 locs1 hP hD hS => go (es.length, .inl (upd f j.toNatClampNeg y)) H1 locs1 rfl g3 ?_ ?_ hP hD hS)
                    · show Value.int (upd f j.toNatClampNeg y j.toNatClampNeg) = _
                      rw [pk_us]
                    · intro j' hj
                      show Value.int (upd f j.toNatClampNeg y j') = _
                      rw [pk_un hj]
                      rfl
                  · omega
                  · obtain ⟨y, rfl⟩ := hkv
                    have hy01 := x_bool01 (hz rfl _ _ rfl) hv
                    have hy : vp_nar .boolean y = y := by
                      rcases hy01 with rfl | rfl <;> decide +kernel
                    refine va_zast hx hb hK h4 h5 h6 q.2 2 g1 hT.2.2.1 hin hd (fun H1 locs1 hP hD hS => go (es.length, .inl (upd f j.toNatClampNeg (vp_nar .boolean y))) H1 locs1 rfl g3 ?_ ?_ hP hD hS)
                    · show Value.int (upd f j.toNatClampNeg (vp_nar .boolean y) j.toNatClampNeg) = _
                      rw [pk_us, hy]
                    · intro j' hj
                      show Value.int (upd f j.toNatClampNeg (vp_nar .boolean y) j') = _
                      rw [pk_un hj]
                      rfl
                | .inr (.inl f), g1, g3, go =>
                  have g3 : ty = 1 := g3
                  rcases hi with ⟨rfl, rfl, rfl⟩ | ⟨rfl, rfl, rfl⟩ | ⟨rfl, rfl, rfl⟩
                  · omega
                  · obtain ⟨y, rfl⟩ := hkv
                    refine va_last hx hb hK h4 h5 h6 q.2 1 g1 hT.2.1 hin hd (fun H1 locs1 hP hD hS => go (es.length, .inr (.inl (vp_updL f j.toNatClampNeg y))) H1 locs1 rfl g3 ?_ ?_ hP hD hS)
                    · show Value.long (vp_updL f j.toNatClampNeg y j.toNatClampNeg) = _
                      rw [pk_uLs]
                    · intro j' hj
                      show Value.long (vp_updL f j.toNatClampNeg y j') = _
                      rw [pk_uLn hj]
                      rfl
                  · omega
                | .inr (.inr (.inl f)), _, g3, _ => exact absurd g3 id
                | .inr (.inr (.inr (.inl f))), _, g3, _ => exact absurd g3 id
                | .inr (.inr (.inr (.inr f))), _, g3, _ =>
                  have g3 : 3 ≤ ty ∧ ty < 7 := g3
                  rcases hi with ⟨_, h, _⟩ | ⟨_, h, _⟩ | ⟨_, h, _⟩ <;> omega
              · omega
          · rw [if_neg ht] at h
            cases h
    · rw [if_neg hq1] at h
      cases h
theorem xo_aast {TC : Nat → Option Nat} (hTC : ∀ t b, TC t = some b → 3 ≤ t ∧ t < 7 ∧ ∃ o : vw_C, cl[b]? = some o ∧ tys[t]? = some (tA t, .object o.1)) (hx : p.tables.exec = Jvm.exec) (hb : c.code = cc) (hd : decode cc pc = .ok (.aastore, 1)) (hK : va_K D cl tys s) (h : xh_aast TC pc lv st w k n = some r) (hr : XRs p l e R s m args below meth c Q cc nL D cl tA A as0 ex ret r) : XSat p l e R s m args below meth c Q nL D cl tA A as0 ex (pc, lv, st, w, k, n) := by
  match st, h with
  | .inr (.inr v) :: .inl z :: .inr (.inr q) :: st, h =>
    unfold xh_aast at h
    dsimp only at h
    by_cases hq1 : q.1 = 1 ∧ v.1 = 1 ∧ z.1 = z.2
    · rw [if_pos hq1] at h
      cases hc : w[q.2]? with
      | none => rw [hc] at h; cases h
      | some o =>
        cases hcv : w[v.2]? with
        | none =>
          rw [hc, hcv] at h
          match o, h with
          | .inl _, h => cases h
          | .inr _, h => cases h
        | some ov =>
          rw [hc, hcv] at h
          match o, ov, hc, hcv, h with
          | .inl _, _, _, _, h => cases h
          | .inr (t, es), .inr _, _, _, h => cases h
          | .inr (t, es), .inl (b, fb), hc, hcv, h =>
            dsimp only at h
            by_cases ht : TC t = some b
            · rw [if_pos ht] at h
              obtain ⟨t3, t7, o, ho, hty⟩ := hTC t b ht
              cases hw : xwrite es z (.inr (.inr v)) with
              | none => rw [hw] at h; cases h
              | some es' =>
                rw [hw] at h
                cases h
                intro H locs ls vs lw ws ⟨h1, h2, h3, h4, h5, h6, h7, h8⟩
                obtain ⟨u, _, rfl, hv, _, _, rfl, ⟨j, rfl, j1, j2⟩, uq, vs', rfl, hq, h2⟩ := h2
                obtain ⟨hin, hlen, hel⟩ := xwrite_in (as := xad ws) (ex := ex) hw j1 j2
                have hvv : xv_in (xad ws) ex (.inr (.inr v)) u := hv
                rcases hq with ⟨h0, _⟩ | ⟨a, rfl, ⟨_, ha⟩ | ⟨h0, _⟩⟩
                · omega
                · rcases hv with ⟨h0, _⟩ | ⟨av, rfl, ⟨_, hav⟩ | ⟨h0, _⟩⟩
                  · omega
                  · obtain ⟨e0, g1, X, rfl, g2, g3, g4⟩ := h3.at hc ha
                    obtain ⟨ev, k1, vsv, rfl, k2⟩ := h3.at hcv hav
                    obtain ⟨N, F⟩ := X
                    have g2 : N = es.length := g2
                    subst g2
                    match F, g1, g3, g4 with
                    | .inl f, _, g3, _ =>
                      have g3 : t = 0 ∨ t = 2 := g3
                      omega
                    | .inr (.inl f), _, g3, _ =>
                      have g3 : t = 1 := g3
                      omega
                    | .inr (.inr (.inl f)), _, g3, _ => exact absurd g3 id
                    | .inr (.inr (.inr (.inl f))), _, g3, _ => exact absurd g3 id
                    | .inr (.inr (.inr (.inr f))), g1, g3, g4 =>
                      refine va_astq hx hb hK h4 h5 h6 q.2 t v.2 b g1 hty k1 ho hin hd (fun H1 locs1 hP hD hS => ?_)
                      refine hr H1 locs1 ls vs' lw _ ⟨by rw [xad_set g1]; exact h1, by rw [xad_set g1]; exact h2, h3.set g1 ⟨(es.length, .inr (.inr (.inr (.inr (va_up f j.toNatClampNeg (some av)))))), rfl, by rw [hlen], g3, fun j' y hy => ?_⟩, hP, hD, hS, h7, by rw [xad_set g1]; exact h8⟩
                      obtain ⟨b1, b2⟩ := hel j' y hy
                      by_cases hj : j' = j.toNatClampNeg
                      · have e3 : xa_get (es.length, .inr (.inr (.inr (.inr (va_up f j.toNatClampNeg (some av)))))) j' = .ref av := by
                          show va_rf (va_up f j.toNatClampNeg (some av) j') = _
                          rw [hj]
                          simp [va_up, va_rf]
                        rw [e3]
                        exact b1 hj _ hvv
                      · obtain ⟨y0, c1, c2⟩ := b2 hj
                        have e3 : xa_get (es.length, .inr (.inr (.inr (.inr (va_up f j.toNatClampNeg (some av)))))) j' = xa_get (es.length, .inr (.inr (.inr (.inr f)))) j' := by
                          show va_rf (va_up f j.toNatClampNeg (some av) j') = va_rf (f j')
                          simp [va_up, hj]
                        rw [e3]
                        exact c2 _ (g4 j' y0 c1)
                  · omega
                · omega
            · rw [if_neg ht] at h
              cases h
    · rw [if_neg hq1] at h
      cases h
end XO
end
section
/-! ===== what is made, objects' fields, calls ===== -/
theorem x_repl {as ex : List Nat} {x : XV} {x0 : vp_A} {N : Nat} (h : ∀ j, xv_in as ex x (xa_get x0 j)) : ∀ (j : Nat) (y : XV), (List.replicate N x)[j]? = some y → xv_in as ex y (xa_get x0 j) := by
  intro j y hy
  have hm := List.mem_of_getElem? hy
  rw [(List.mem_replicate.mp hm).2]
  exact h j
/-- of one type there is one class of arrays -/
theorem x_same {s : State} {c1 c2 : ClassId} {ty : FieldType} (h1 : va_RA s c1 ty) (h2 : va_RA s c2 ty) : c1 = c2 := by
  cases ty with
  | object C =>
    obtain ⟨_, _, _, _, _, a⟩ := h1
    obtain ⟨_, _, _, _, _, b⟩ := h2
    exact Option.some.inj (a.symm.trans b)
  | _ => exact Option.some.inj (Eq.trans (Eq.symm h1) h2)
/-- a class with its fields -/
def xclo (cl : List vw_C) (Ts : List Cond) (ci : Nat) (C : String) (T : u_T) (N : Nat) (ty : Nat → FieldType) : Prop := cl[ci]? = some (C, T, N) ∧ (∀ w ∈ u_ws C T N, w ∈ Ts) ∧ (∀ k, k < N → parseFieldDescriptor (T k).2.2.1 = some (ty k)) ∧ ∀ a, a < N → ∀ b, b < N → a ≠ b → (T a).2.1 ≠ (T b).2.1
section XO
variable {p : Program} {l : Launch} {e : Env} {R : Room} {s : State} {m : MethodId} {args : Array Value} {below : List Frame} {meth : Method} {c : Code} {Q : State → Prop} {cc : ByteArray} {nL : Nat} {D : va_G} {cl : List vw_C} {tys : List (ClassId × FieldType)} {tA : Nat → ClassId} {A : Nat → Prop} {as0 ex : List Nat} {exc : List (List XV)} {ret : Option FieldType} {pc : Nat} {lv : XL} {st : List XV} {w : XW} {k n : Nat} {r : XR} {own : String} {Ts : List Cond}
theorem x_small {q : Int × Int} {x : Int32} (h1 : q.1 ≤ x.toInt) (h2 : x.toInt ≤ q.2) (e0 : q.1 = q.2) (h0 : 0 ≤ q.1) : ¬ x < 0 ∧ x.toNatClampNeg = q.1.toNat := by
  refine ⟨fun h => ?_, ?_⟩
  · rw [Int32.lt_iff_toInt_lt] at h
    have z : (0 : Int32).toInt = 0 := rfl
    omega
  · have hn : x.toNatClampNeg = x.toInt.toNat := rfl
    rw [hn, show x.toInt = q.1 by omega]
theorem xo_newa {t : Nat} {at' : ArrayType} (hat : (at' = .int ∧ t = 0) ∨ (at' = .long ∧ t = 1) ∨ (at' = .boolean ∧ t = 2)) (hw0 : (Cond.arrayClass (newarray.typeOf at')).before args s = true) (hx : p.tables.exec = Jvm.exec) (hb : c.code = cc) (hd : decode cc pc = .ok (.newarray at', 2)) (hK : va_K D cl tys s) (hT : xty tys tA) (hA : ∀ q, s.heap.size ≤ q → A q) {TY : Option FieldType} (hTY : TY = some (newarray.typeOf at')) (h : xh_newa 2 t TY R.cells R.slots pc lv st w k n = some r) (hr : XRs p l e R s m args below meth c Q cc nL D cl tA A as0 ex ret r) : XSat p l e R s m args below meth c Q nL D cl tA A as0 ex (pc, lv, st, w, k, n) := by
  subst hTY
  match st, h with
  | .inl q :: st, h =>
    unfold xh_newa at h
    dsimp only at h
    by_cases hq : q.1 = q.2 ∧ 0 ≤ q.1 ∧ q.1 < 1000 ∧ k + 1 ≤ R.cells ∧ n + q.1.toNat ≤ R.slots
    · rw [if_pos hq] at h
      obtain ⟨q1, q2, q3, q4, q5⟩ := hq
      intro H locs ls vs lw ws ⟨h1, h2, h3, h4, h5, h6, h7, h8⟩
      obtain ⟨_, vs', rfl, ⟨x, rfl, x1, x2⟩, h2⟩ := h2
      obtain ⟨hn, hN⟩ := x_small x1 x2 q1 q2
      have go : ∀ (x0 : vp_A) (y : XV), xa_k t x0 → x0.1 = q.1.toNat → (∀ as (j : Nat), xv_in as ex y (xa_get x0 j)) → r = .inl (pc + 2, lv, .inr (.inr (1, w.length)) :: st, w ++ [.inr (t, List.replicate q.1.toNat y)], k + 1, n + q.1.toNat) → ∀ (g : Nat) (H1 : Heap), va_P D cl (ws ++ [(g, .inl (tA t, x0))]) H1 → va_D A (ws ++ [(g, .inl (tA t, x0))]) → va_S A s.heap H1 locs → W p l e R s m args below meth c H1 locs (k + 1) (n + q.1.toNat) Q (F0 m (pc + 2) ls (.ref g :: vs')) := by
        intro x0 y e1 e2 e3 e4 g H1 hP hD hS
        subst e4
        refine hr H1 locs ls (.ref g :: vs') lw (ws ++ [(g, .inl (tA t, x0))]) ⟨by rw [xad_push]; exact h1.mono _, ⟨_, vs', rfl, Or.inr ⟨g, rfl, Or.inl ⟨rfl, ?_⟩⟩, by rw [xad_push]; exact h2.mono _⟩, h3.push ⟨x0, rfl, by rw [e2, List.length_replicate], e1, x_repl (e3 _)⟩, hP, hD, hS, h7, ?_⟩
        · show (xad (ws ++ [(g, _)]))[w.length]? = some g
          rw [xad_push, h3.1, show ws.length = (xad ws).length by simp [xad]]
          simp
        · obtain ⟨tl, htl⟩ := h8
          exact ⟨tl ++ [g], by rw [xad_push, htl, List.append_assoc]⟩
      rcases hat with ⟨rfl, rfl⟩ | ⟨rfl, rfl⟩ | ⟨rfl, rfl⟩
      · refine va_newa (N' := q.1.toNat) (a0 := (q.1.toNat, .inl fun _ => 0)) hx hb hw0 rfl hK h4 h5 h6 hA (fun _ => rfl) hn hN (by show q.1.toNat * 4 ≤ _; omega) q4 q5 hd (fun g cA H1 hK1 hP hD hS => ?_)
        have ec : cA = tA 0 := x_same (hK1.2 tys.length (cA, .int) (by rw [List.getElem?_append_right (Nat.le_refl _), Nat.sub_self]; rfl)).2 (hK.2 0 _ hT.1).2
        subst ec
        exact go (q.1.toNat, .inl fun _ => 0) (xi 0) (Or.inl rfl) rfl (fun _ _ => ⟨0, rfl, Int.le_refl _, Int.le_refl _⟩) (Option.some.inj h).symm g H1 hP hD hS
      · refine va_newa (N' := q.1.toNat) (a0 := (q.1.toNat, .inr (.inl fun _ => 0))) hx hb hw0 rfl hK h4 h5 h6 hA (fun _ => rfl) hn hN (by show q.1.toNat * 8 ≤ _; omega) q4 q5 hd (fun g cA H1 hK1 hP hD hS => ?_)
        have ec : cA = tA 1 := x_same (hK1.2 tys.length (cA, .long) (by rw [List.getElem?_append_right (Nat.le_refl _), Nat.sub_self]; rfl)).2 (hK.2 1 _ hT.2.1).2
        subst ec
        exact go (q.1.toNat, .inr (.inl fun _ => 0)) (.inr (.inl (some 0))) rfl rfl (fun _ _ => ⟨0, rfl, fun z hz => by cases hz; rfl⟩) (Option.some.inj h).symm g H1 hP hD hS
      · refine va_newa (N' := q.1.toNat) (a0 := (q.1.toNat, .inl fun _ => 0)) hx hb hw0 rfl hK h4 h5 h6 hA (fun _ => rfl) hn hN (by show q.1.toNat * 1 ≤ _; omega) q4 q5 hd (fun g cA H1 hK1 hP hD hS => ?_)
        have ec : cA = tA 2 := x_same (hK1.2 tys.length (cA, .boolean) (by rw [List.getElem?_append_right (Nat.le_refl _), Nat.sub_self]; rfl)).2 (hK.2 2 _ hT.2.2.1).2
        subst ec
        exact go (q.1.toNat, .inl fun _ => 0) (xi 0) (Or.inr rfl) rfl (fun _ _ => ⟨0, rfl, Int.le_refl _, Int.le_refl _⟩) (Option.some.inj h).symm g H1 hP hD hS
    · rw [if_neg hq] at h
      cases h
theorem xo_newq {t idx : Nat} {C : String} (t3 : 3 ≤ t) (t7 : t < 7) (hty : tys[t]? = some (tA t, .object C)) (hown : s.vm.findClass own = some m.cls) (hcl : (Cond.classLink own idx C).before args s = true) (hov : va_AO C s) (hx : p.tables.exec = Jvm.exec) (hb : c.code = cc) (hd : decode cc pc = .ok (.anewarray idx, 3)) (hK : va_K D cl tys s) (hA : ∀ q, s.heap.size ≤ q → A q) {TY : Option FieldType} (hTY : TY = some (.object C)) (h : xh_newa 3 t TY R.cells R.slots pc lv st w k n = some r) (hr : XRs p l e R s m args below meth c Q cc nL D cl tA A as0 ex ret r) : XSat p l e R s m args below meth c Q nL D cl tA A as0 ex (pc, lv, st, w, k, n) := by
  subst hTY
  match st, h with
  | .inl q :: st, h =>
    unfold xh_newa at h
    dsimp only at h
    by_cases hq : q.1 = q.2 ∧ 0 ≤ q.1 ∧ q.1 < 1000 ∧ k + 1 ≤ R.cells ∧ n + q.1.toNat ≤ R.slots
    · rw [if_pos hq] at h
      obtain ⟨q1, q2, q3, q4, q5⟩ := hq
      cases h
      intro H locs ls vs lw ws ⟨h1, h2, h3, h4, h5, h6, h7, h8⟩
      obtain ⟨_, vs', rfl, ⟨x, rfl, x1, x2⟩, h2⟩ := h2
      obtain ⟨hn, hN⟩ := x_small x1 x2 q1 q2
      refine va_newq (N' := q.1.toNat) hx hb hown hcl hov hK h4 h5 h6 hA hn hN (by omega) q4 q5 hd (fun g cA H1 hK1 hP hD hS => ?_)
      have ec : cA = tA t := x_same (hK1.2 tys.length (cA, .object C) (by rw [List.getElem?_append_right (Nat.le_refl _), Nat.sub_self]; rfl)).2 (hK.2 t _ hty).2
      subst ec
      refine hr H1 locs ls (.ref g :: vs') lw _ ⟨by rw [xad_push]; exact h1.mono _, ⟨_, vs', rfl, Or.inr ⟨g, rfl, Or.inl ⟨rfl, ?_⟩⟩, by rw [xad_push]; exact h2.mono _⟩, h3.push ⟨(q.1.toNat, .inr (.inr (.inr (.inr (fun _ => none))))), rfl, by rw [List.length_replicate], show 3 ≤ t ∧ t < 7 from ⟨t3, t7⟩, x_repl (fun _ => Or.inl ⟨rfl, rfl⟩)⟩, hP, hD, hS, h7, ?_⟩
      · show (xad (ws ++ [(g, _)]))[w.length]? = some g
        rw [xad_push, h3.1, show ws.length = (xad ws).length by simp [xad]]
        simp
      · obtain ⟨tl, htl⟩ := h8
        exact ⟨tl ++ [g], by rw [xad_push, htl, List.append_assoc]⟩
    · rw [if_neg hq] at h
      cases h
theorem xo_new {ci idx : Nat} {C : String} {T : u_T} {N : Nat} {ty : Nat → FieldType} {fs : List XV} {fv : List Value} (hC : xclo cl Ts ci C T N ty) (hfl : fs.length = N) (hfv : ∀ as : List Nat, xl_in as ex fs fv) (hdf : ∀ j, j < N → defaultValue (ty j) = vp_V fv j) (hts : ∀ w ∈ Ts, w.before args s = true) (hown : s.vm.findClass own = some m.cls) (hcl : (Cond.classLink own idx C).before args s = true) (hin : (Cond.instantiable C N).before args s = true) (hini : (Cond.initialized C).before args s = true) (hx : p.tables.exec = Jvm.exec) (hb : c.code = cc) (hd : decode cc pc = .ok (.new idx, 3)) (hK : va_K D cl tys s) (hA : ∀ q, s.heap.size ≤ q → A q) {FD : Option (List XV)} (hFD : FD = some fs) (h : xh_new ci FD R.cells R.slots pc lv st w k n = some r) (hr : XRs p l e R s m args below meth c Q cc nL D cl tA A as0 ex ret r) : XSat p l e R s m args below meth c Q nL D cl tA A as0 ex (pc, lv, st, w, k, n) := by
  subst hFD
  unfold xh_new at h
  dsimp only at h
  by_cases hq : k + 1 ≤ R.cells ∧ n + fs.length ≤ R.slots
  · rw [if_pos hq] at h
    cases h
    intro H locs ls vs lw ws ⟨h1, h2, h3, h4, h5, h6, h7, h8⟩
    rw [hfl] at hq
    refine va_new (ci := ci) (fs := fv) hx hb hts hC.2.1 ty hC.2.2.1 hown hcl hin hini hK h4 h5 h6 hA hC.1 hdf hq.1 hq.2 hd (fun g H1 hP hD hS => ?_)
    have hk2 : (k + 1, n + N) = (k + 1, n + fs.length) := by rw [hfl]
    have go := hr H1 locs ls (.ref g :: vs) lw (ws ++ [(g, .inr (ci, fv))]) ⟨by rw [xad_push]; exact h1.mono _, ⟨_, vs, rfl, Or.inr ⟨g, rfl, Or.inl ⟨rfl, by
        show (xad (ws ++ [(g, _)]))[w.length]? = some g
        rw [xad_push, h3.1, show ws.length = (xad ws).length by simp [xad]]
        simp⟩⟩, by rw [xad_push]; exact h2.mono _⟩, h3.push ⟨fv, rfl, hfv _⟩, hP, hD, hS, h7, by
        obtain ⟨tl, htl⟩ := h8
        exact ⟨tl ++ [g], by rw [xad_push, htl, List.append_assoc]⟩⟩
    rw [← hfl]
    exact go
  · rw [if_neg hq] at h
    cases h
theorem xo_get {ci f idx : Nat} {C : String} {T : u_T} {N : Nat} {ty : Nat → FieldType} (hC : xclo cl Ts ci C T N ty) (hf : f < N) (hts : ∀ w ∈ Ts, w.before args s = true) (hown : s.vm.findClass own = some m.cls) (hlk : (Cond.fieldLink own idx (T f).1 (T f).2.1 (T f).2.2.1).before args s = true) (hx : p.tables.exec = Jvm.exec) (hb : c.code = cc) (hd : decode cc pc = .ok (.getfield idx, 3)) (hK : va_K D cl tys s) (h : xh_get ci f pc lv st w k n = some r) (hr : XRs p l e R s m args below meth c Q cc nL D cl tA A as0 ex ret r) : XSat p l e R s m args below meth c Q nL D cl tA A as0 ex (pc, lv, st, w, k, n) := by
  match st, h with
  | .inr (.inr q) :: st, h =>
    unfold xh_get at h
    dsimp only at h
    by_cases hq1 : q.1 = 1
    · rw [if_pos hq1] at h
      cases hc : w[q.2]? with
      | none => rw [hc] at h; cases h
      | some o =>
        rw [hc] at h
        match o, hc, h with
        | .inr _, _, h' => cases h'
        | .inl (ci', fs), hc, h' =>
          dsimp only at h'
          by_cases hci : ci' = ci
          · rw [if_pos hci] at h'
            subst hci
            cases hfs : fs[f]? with
            | none => rw [hfs] at h'; cases h'
            | some y =>
              rw [hfs] at h'
              cases h'
              intro H locs ls vs lw ws ⟨h1, h2, h3, h4, h5, h6, h7, h8⟩
              obtain ⟨u, vs', rfl, hq, h2⟩ := h2
              rcases hq with ⟨h0, _⟩ | ⟨a, rfl, ⟨_, ha⟩ | ⟨h0, _⟩⟩
              · omega
              · obtain ⟨e0, g1, fv, rfl, g2⟩ := h3.at hc ha
                obtain ⟨v, hv1, hv2⟩ := g2.get hfs
                exact va_get hx hb hts hC.2.1 hown hK h4 q.2 g1 hC.1 f hf hlk (fun _ h9 => h9) hv1 hd (hr H locs ls (v :: vs') lw ws ⟨h1, ⟨v, vs', rfl, hv2, h2⟩, h3, h4, h5, h6, h7, h8⟩)
              · omega
          · rw [if_neg hci] at h'
            cases h'
    · rw [if_neg hq1] at h
      cases h
theorem x_fit {as : List Nat} : ∀ {ty : FieldType} {x : XV} {v : Value}, xfit ty x = true → xv_in as ex x v → narrow ty v = v ∧ fits ty v = true
  | ty, .inl q, v, h, ⟨x, e0, _⟩ => by
    subst e0
    cases ty <;> first | exact ⟨rfl, rfl⟩ | cases h
  | ty, .inr (.inl q), v, h, ⟨x, e0, _⟩ => by
    subst e0
    cases ty <;> first | exact ⟨rfl, rfl⟩ | cases h
  | ty, .inr (.inr q), v, h, hv => by
    rcases hv with ⟨_, e0⟩ | ⟨a, e0, _⟩ <;> subst e0 <;> cases ty <;> first | exact ⟨rfl, rfl⟩ | cases h
theorem xo_put {ci f idx : Nat} {C : String} {T : u_T} {N : Nat} {ty : Nat → FieldType} (hC : xclo cl Ts ci C T N ty) (hf : f < N) (hfin : (T f).2.2.2 = false ∨ ((T f).2.2.2 = true ∧ meth.name = "<init>" ∧ (T f).1 = own)) (hts : ∀ w ∈ Ts, w.before args s = true) (hown : s.vm.findClass own = some m.cls) (hlk : (Cond.fieldLink own idx (T f).1 (T f).2.1 (T f).2.2.1).before args s = true) (hx : p.tables.exec = Jvm.exec) (hb : c.code = cc) (hd : decode cc pc = .ok (.putfield idx, 3)) (hK : va_K D cl tys s) {FT : Option FieldType} (hFT : FT = some (ty f)) (h : xh_put ci f FT pc lv st w k n = some r) (hr : XRs p l e R s m args below meth c Q cc nL D cl tA A as0 ex ret r) : XSat p l e R s m args below meth c Q nL D cl tA A as0 ex (pc, lv, st, w, k, n) := by
  subst hFT
  match st, h with
  | x :: .inr (.inr q) :: st, h =>
    unfold xh_put at h
    dsimp only at h
    by_cases hq1 : q.1 = 1
    · rw [if_pos hq1] at h
      cases hc : w[q.2]? with
      | none => rw [hc] at h; cases h
      | some o =>
        rw [hc] at h
        match o, hc, h with
        | .inr _, _, h' => cases h'
        | .inl (ci', fs), hc, h' =>
          dsimp only at h'
          by_cases hci : ci' = ci ∧ f < fs.length ∧ xfit (ty f) x = true
          · rw [if_pos hci] at h'
            obtain ⟨hci, hfl, hfit⟩ := hci
            subst hci
            cases h'
            intro H locs ls vs lw ws ⟨h1, h2, h3, h4, h5, h6, h7, h8⟩
            obtain ⟨v, _, rfl, hv, u, vs', rfl, hq, h2⟩ := h2
            rcases hq with ⟨h0, _⟩ | ⟨a, rfl, ⟨_, ha⟩ | ⟨h0, _⟩⟩
            · omega
            · obtain ⟨e0, g1, fv, rfl, g2⟩ := h3.at hc ha
              obtain ⟨n1, n2⟩ := x_fit hfit hv
              have go : ∀ (H1 : Heap) (locs1 : List Loc), va_P D cl (ws.set q.2 (a, .inr (ci', fv.set f v))) H1 → va_D A (ws.set q.2 (a, .inr (ci', fv.set f v))) → va_S A s.heap H1 locs1 → W p l e R s m args below meth c H1 locs1 k n Q (F0 m (pc + 3) ls vs') := fun H1 locs1 hP hD hS => hr H1 locs1 ls vs' lw _ ⟨by rw [xad_set g1]; exact h1, by rw [xad_set g1]; exact h2, h3.set g1 ⟨fv.set f v, rfl, g2.set hv⟩, hP, hD, hS, h7, by rw [xad_set g1]; exact h8⟩
              rcases hfin with hfin | ⟨hfin, hin2, hdecl⟩
              · exact va_put hx hb hts hC.2.1 ty hC.2.2.1 hC.2.2.2 hown hK h4 h5 h6 q.2 g1 hC.1 f hf hlk (fun _ h9 => h9) hfin (hC.2.2.1 f hf) n1 n2 (by rw [g2.len]; exact hfl) hd go
              · exact va_putF hx hb hts hC.2.1 ty hC.2.2.1 hC.2.2.2 hown hK h4 h5 h6 q.2 g1 hC.1 f hf hlk (fun _ h9 => h9) hfin hin2 hdecl (hC.2.2.1 f hf) n1 n2 (by rw [g2.len]; exact hfl) hd go
            · omega
          · rw [if_neg hci] at h'
            cases h'
    · rw [if_neg hq1] at h
      cases h
theorem xo_m2 {M : XM} {g : Int32 → Int32 → Int32} (h : xh_m2 g M pc lv st w k n = some r) (hr : XRs p l e R s m args below meth c Q cc nL D cl tA A as0 ex ret r) (row : ∀ (x y : Int32) (H : Heap) (locs : List Loc) (ls : Array Slot) (vs : List Value), ls.size = nL → 1 ≤ xm_f M → (vs.map fun v => v.category).sum + 13 ≤ xm_o M → k ≤ xm_k M → n ≤ xm_n M → W p l e R s m args below meth c H locs k n Q (F0 m (pc + 3) ls (.int (g x y) :: vs)) → W p l e R s m args below meth c H locs k n Q (F0 m pc ls (.int y :: .int x :: vs))) : XSat p l e R s m args below meth c Q nL D cl tA A as0 ex (pc, lv, st, w, k, n) := by
  match st, h with
  | .inl q :: .inl p0 :: st, h =>
    unfold xh_m2 at h
    dsimp only at h
    by_cases hq : 1 ≤ xm_f M ∧ (st.map xcat).sum + 13 ≤ xm_o M ∧ k ≤ xm_k M ∧ n ≤ xm_n M
    · rw [if_pos hq] at h
      cases h
      intro H locs ls vs lw ws ⟨h1, h2, h3, h4, h5, h6, h7, h8⟩
      obtain ⟨_, _, rfl, ⟨y, rfl, y1, y2⟩, _, vs', rfl, ⟨x, rfl, x1, x2⟩, h2⟩ := h2
      exact row x y H locs ls vs' h7.1 hq.1 (by rw [h2.cats]; exact hq.2.1) hq.2.2.1 hq.2.2.2 (hr H locs ls _ lw ws ⟨h1, ⟨_, vs', rfl, ⟨g x y, rfl, xe2_in g p0 q x y x1 x2 y1 y2⟩, h2⟩, h3, h4, h5, h6, h7, h8⟩)
    · rw [if_neg hq] at h
      cases h
theorem xo_m1 {M : XM} {g : Int32 → Int32} (h : xh_m1 g M pc lv st w k n = some r) (hr : XRs p l e R s m args below meth c Q cc nL D cl tA A as0 ex ret r) (row : ∀ (x : Int32) (H : Heap) (locs : List Loc) (ls : Array Slot) (vs : List Value), ls.size = nL → 1 ≤ xm_f M → (vs.map fun v => v.category).sum + 13 ≤ xm_o M → k ≤ xm_k M → n ≤ xm_n M → W p l e R s m args below meth c H locs k n Q (F0 m (pc + 3) ls (.int (g x) :: vs)) → W p l e R s m args below meth c H locs k n Q (F0 m pc ls (.int x :: vs))) : XSat p l e R s m args below meth c Q nL D cl tA A as0 ex (pc, lv, st, w, k, n) := by
  match st, h with
  | .inl p0 :: st, h =>
    unfold xh_m1 at h
    dsimp only at h
    by_cases hq : 1 ≤ xm_f M ∧ (st.map xcat).sum + 13 ≤ xm_o M ∧ k ≤ xm_k M ∧ n ≤ xm_n M
    · rw [if_pos hq] at h
      cases h
      intro H locs ls vs lw ws ⟨h1, h2, h3, h4, h5, h6, h7, h8⟩
      obtain ⟨_, vs', rfl, ⟨x, rfl, x1, x2⟩, h2⟩ := h2
      exact row x H locs ls vs' h7.1 hq.1 (by rw [h2.cats]; exact hq.2.1) hq.2.2.1 hq.2.2.2 (hr H locs ls _ lw ws ⟨h1, ⟨_, vs', rfl, ⟨g x, rfl, xe1_in g p0 x x1 x2⟩, h2⟩, h3, h4, h5, h6, h7, h8⟩)
    · rw [if_neg hq] at h
      cases h
theorem xo_oinit {M : XM} {idx : Nat} (hRf : R.frames = xm_f M) (hRo : R.locals = xm_o M) (hml : c.maxLocals = nL) (hown : s.vm.findClass own = some m.cls) (hlk : (Cond.methodLink own idx Lib.objectInit).before args s = true) (hin : (Cond.instanceMethod Lib.objectInit).before args s = true) (hcd : (Cond.code Lib.objectInit ⟨#[0xb1]⟩ 1 none).before args s = true) (hx : p.tables.exec = Jvm.exec) (hb : c.code = cc) (hd : decode cc pc = .ok (.invokespecial idx, 3)) (h : xh_oinit M pc lv st w k n = some r) (hr : XRs p l e R s m args below meth c Q cc nL D cl tA A as0 ex ret r) : XSat p l e R s m args below meth c Q nL D cl tA A as0 ex (pc, lv, st, w, k, n) := by
  match st, h with
  | .inr (.inr q) :: st, h =>
    unfold xh_oinit at h
    dsimp only at h
    by_cases hq : q.1 = 1 ∧ 1 ≤ xm_f M ∧ (st.map xcat).sum + 12 ≤ xm_o M
    · rw [if_pos hq] at h
      cases h
      intro H locs ls vs lw ws ⟨h1, h2, h3, h4, h5, h6, h7, h8⟩
      obtain ⟨u, vs', rfl, hv, h2⟩ := h2
      rcases hv with ⟨h0, _⟩ | ⟨a, rfl, _⟩
      · omega
      · refine W.objInit hx hb hown hlk hin hcd rfl (by rw [hml]; exact h7.1) rfl hd (by rw [hRf]; exact hq.2.1) (by
          show 2 * 0 + _ + 12 ≤ _
          rw [h2.cats, hRo]
          omega) ?_
        exact hr H locs ls vs' lw ws ⟨h1, h2, h3, h4, h5, h6, h7, h8⟩
    · rw [if_neg hq] at h
      cases h
end XO
end
section
/-! ===== a method's surroundings, its contract, a call ===== -/
/-- the classes of which arrays are made -/
def xAO : List String := ["IceBoats$Row", "IceBoats$Boat", "IceBoats$Word", "IceBoats$Look"]
/-- what holds around a method: the classes, the rows outside of the world, the statics, the nest mates' words -/
def XEnv (D : va_G) (cl : List vw_C) (tys : List (ClassId × FieldType)) (ex : List Nat) (exc : List (List XV)) (SV : List (String × String × String × Nat)) (NW : List (String × Nat × MethodName × String)) (NF : List (String × Nat × String × String × String × String)) (A : Nat → Prop) (U : State) : Prop :=
  va_K D cl tys U ∧ xext A ex exc U ∧ (∀ q ∈ SV, ∃ a, ex[q.2.2.2]? = some a ∧ va_Z q.1 q.2.1 q.2.2.1 (.ref a) A U U.heap) ∧ (∀ q ∈ NW, va_Nw (.methodLinkNest q.1 q.2.1 q.2.2.1 q.2.2.2) U) ∧ (∀ q ∈ NF, va_Nw (.fieldLinkNest q.1 q.2.1 q.2.2.1 q.2.2.2.1 q.2.2.2.2.1 q.2.2.2.2.2) U) ∧ ∀ C ∈ xAO, va_AO C U
theorem XEnv.move {D : va_G} {cl : List vw_C} {tys : List (ClassId × FieldType)} {ex : List Nat} {exc : List (List XV)} {SV : List (String × String × String × Nat)} {NW : List (String × Nat × MethodName × String)} {NF : List (String × Nat × String × String × String × String)} {A B : Nat → Prop} {s U : State} (h : XEnv D cl tys ex exc SV NW NF A s) (hW : s.WarmedH U.vm) (hq : ∀ a : Nat, a < s.heap.size → ¬ A a → U.heap[a]? = s.heap[a]?) (hAB : ∀ q, B q → A q) : XEnv D cl tys ex exc SV NW NF B U := by
  obtain ⟨h1, h2, h3, h4, h5, h6⟩ := h
  refine ⟨va_K.moved hW.alike h1, fun j a es ha he => ?_, fun q hq' => ?_, fun q hq' => va_Nw.warmM hW (h4 q hq'), fun q hq' => va_Nw.warmF hW (h5 q hq'), fun C hC => va_AO.moved hW.alike (h6 C hC)⟩
  · obtain ⟨f, f1, f2⟩ := h2 j a es ha he
    exact ⟨f, ((f1.moved hW.alike).kept hq).narrow hAB, f2⟩
  · obtain ⟨a, a1, a2⟩ := h3 q hq'
    exact ⟨a, a1, ((a2.moved hW.alike).kept hq).narrow hAB⟩
abbrev xws (Ts : List Cond) (N : XM) : List Cond := .code (xm_y N) (xm_c N) (xm_l N) (xm_r N) :: Ts
abbrev xrm (N : XM) : Room := { frames := xm_f N, cells := xm_k N, slots := xm_n N, locals := xm_o N }
def XPc (D : va_G) (cl : List vw_C) (tys : List (ClassId × FieldType)) (ex : List Nat) (exc : List (List XV)) (SV : List (String × String × String × Nat)) (NW : List (String × Nat × MethodName × String)) (NF : List (String × Nat × String × String × String × String)) (vals : List Value) (ws : va_W) (sz : Nat) : Array Value → State → Prop := va_Pc vals (fun U => U.heap.size = sz ∧ va_P D cl ws U.heap ∧ va_D (fun _ => True) ws ∧ XEnv D cl tys ex exc SV NW NF (va_A ws sz) U)
def XQ (D : va_G) (cl : List vw_C) (tA : Nat → ClassId) (ex : List Nat) (ro : Option XV) (w' : XW) (ws : va_W) (sz : Nat) : Array Value → State → Outcome → State → Prop := fun _ st oc t => (∃ (rv : Option Value) (ws' : va_W), oc = .returned rv ∧ xo_in (xad ws') ex ro rv ∧ va_P D cl ws' t.heap ∧ va_D (va_A ws sz) ws' ∧ xw_in ex tA w' ws' ∧ ∃ tl, xad ws' = xad ws ++ tl) ∧ va_F (va_A ws sz) st t
def XMet (l : Launch) (D : va_G) (cl : List vw_C) (tys : List (ClassId × FieldType)) (tA : Nat → ClassId) (ex : List Nat) (exc : List (List XV)) (SV : List (String × String × String × Nat)) (NW : List (String × Nat × MethodName × String)) (NF : List (String × Nat × String × String × String × String)) (Ts : List Cond) (N : XM) (as : List XV) (w : XW) (ro : Option XV) (w' : XW) : Prop := ∀ (vals : List Value) (ws : va_W) (sz : Nat), xl_in (xad ws) ex as vals → xw_in ex tA w ws → Met l (xm_y N) (xws Ts N) (xrm N) (XPc D cl tys ex exc SV NW NF vals ws sz) (XQ D cl tA ex ro w' ws sz) (xm_k N) (xm_n N) (va_A ws sz)
section XO
variable {p : Program} {l : Launch} {e : Env} {R : Room} {s : State} {m : MethodId} {args : Array Value} {below : List Frame} {meth : Method} {c : Code} {Q : State → Prop} {cc : ByteArray} {nL : Nat} {D : va_G} {cl : List vw_C} {tys : List (ClassId × FieldType)} {tA : Nat → ClassId} {A : Nat → Prop} {as0 ex : List Nat} {exc : List (List XV)} {ret : Option FieldType} {pc : Nat} {lv : XL} {st : List XV} {w : XW} {k n : Nat} {r : XR} {own : String} {Ts : List Cond} {SV : List (String × String × String × Nat)} {NW : List (String × Nat × MethodName × String)} {NF : List (String × Nat × String × String × String × String)}
theorem x_back {mc ms : Nat} {rest st0 : List Value} {ro : Option XV} {w' : XW} {ws : va_W} {H : Heap} {locs : List Loc} {ls : Array Slot} {av : Array Value} (hr0 : va_Run p l e R s m args below meth c H locs k n mc ms (F0 m pc ls st0) rest (XQ D cl tA ex ro w' ws H.size av) (va_A ws H.size)) (hS : va_S A s.heap H locs) (hF : ∀ q, va_A ws H.size q → A q) (kk : ∀ (rv : Option Value) (ws' : va_W) (H1 : Heap) (locs1 : List Loc), xo_in (xad ws') ex ro rv → va_P D cl ws' H1 → va_D A ws' → xw_in ex tA w' ws' → (∃ tl, xad ws' = xad ws ++ tl) → va_S A s.heap H1 locs1 → W p l e R s m args below meth c H1 locs1 (k + mc) (n + ms) Q (F0 m (pc + 3) ls (rv.toList ++ rest))) : W p l e R s m args below meth c H locs k n Q (F0 m pc ls st0) := by
  intro T hT X
  obtain ⟨v, st₀, t, T', L, h0, X', hL, e1, e2, ⟨⟨rv, ws', hv, ho, hP, hD, hw, htl⟩, hz, hk⟩, st⟩ := hr0 T hT X
  cases hv
  rw [h0] at hz hk
  obtain ⟨t2, a1, b1⟩ := kk v ws' T'.heap (locs ++ L) ho (by rw [e1]; exact hP) (hD.weaken (fun _ q _ h => hF q.1 h)) hw htl
    ⟨Nat.le_trans hS.1 (by rw [e1]; exact hz), fun q h1 h2 => by rw [e1, hk q (Nat.lt_of_lt_of_le h1 hS.1) (fun z => h2 (hF q z))]; exact hS.2.1 q h1 h2, fun q hq => by
      rcases List.mem_append.mp hq with h | h
      · exact hS.2.2 q h
      · exact hF _ (hL q h)⟩ T' rfl X'
  exact ⟨t2, st t2 a1, b1⟩
theorem x_free {ws : va_W} {H : Heap} {locs : List Loc} (hD : va_D A ws) (hS : va_S A s.heap H locs) (hA : ∀ q, s.heap.size ≤ q → A q) : ∀ q, va_A ws H.size q → A q := by
  intro q h
  rcases h with ⟨i, e0, h⟩ | h
  · exact hD.2 i (q, e0) h
  · exact hA q (Nat.le_trans hS.1 h)
theorem x_blind {vals : List Value} {ws : va_W} {sz : Nat} : FrameBlind (XPc D cl tys ex exc SV NW NF vals ws sz) := by
  intro a U g mk h
  obtain ⟨h1, h2, h3, h4, h5⟩ := h
  exact ⟨h1, h2, h3, h4, XEnv.move (U := U.calling g mk a) h5 (State.WarmedH.refl U) (fun _ _ _ => rfl) (fun _ h => h)⟩
theorem x_pre {vals : List Value} {ws : va_W} {H : Heap} {locs : List Loc} (hE : XEnv D cl tys ex exc SV NW NF A s) (hP : va_P D cl ws H) (hD : va_D A ws) (hS : va_S A s.heap H locs) (hF : ∀ q, va_A ws H.size q → A q) : PreS s H (XPc D cl tys ex exc SV NW NF vals ws H.size) vals :=
  ⟨x_blind, fun U hU hW => ⟨rfl, by rw [hU], by rw [hU]; exact hP, hD.weaken (fun _ _ _ _ => trivial), XEnv.move hE hW (fun a h1 h2 => by rw [hU]; exact hS.2.1 a h1 h2) hF⟩⟩
/-- a call, of whatever kind: what its run says, given the callee's contract -/
theorem xo_call {cf : XF} {M N : XM} {j na : Nat} {recv : Bool} (hE : XEnv D cl tys ex exc SV NW NF A s) (hA : ∀ q, s.heap.size ≤ q → A q) (hRf : R.frames = xm_f M) (hRo : R.locals = xm_o M) (hRk : R.cells = xm_k M) (hRn : R.slots = xm_n M) (hcf : ∀ (as : List XV) (w : XW) (ro : Option XV) (w' : XW), cf j as w = some (ro, w') → XMet l D cl tys tA ex exc SV NW NF Ts N as w ro w')
    (run : ∀ (ro : Option XV) (w' : XW) (vals rest : List Value) (ws : va_W) (H : Heap) (locs : List Loc) (ls : Array Slot), vals.length = na → ls.size = nL → xl_in (xad ws) ex (st.take na).reverse vals → xw_in ex tA w ws → va_P D cl ws H → (!recv || xrecv w (xm_i N) (st.take na).reverse) = true → xm_f N + 1 ≤ R.frames ∧ 8 + (xm_l N + 11) + xm_o N ≤ R.locals → k + xm_k N ≤ R.cells ∧ n + xm_n N ≤ R.slots → 2 * (F0 m pc ls (vals.reverse ++ rest)).monitorRoom + (rest.map fun v => v.category).sum ≤ 8 → Met l (xm_y N) (xws Ts N) (xrm N) (XPc D cl tys ex exc SV NW NF vals ws H.size) (XQ D cl tA ex ro w' ws H.size) (xm_k N) (xm_n N) (va_A ws H.size) → PreS s H (XPc D cl tys ex exc SV NW NF vals ws H.size) vals → va_Run p l e R s m args below meth c H locs k n (xm_k N) (xm_n N) (F0 m pc ls (vals.reverse ++ rest)) rest (XQ D cl tA ex ro w' ws H.size vals.toArray) (va_A ws H.size))
    (h : xh_call cf M (some N) j na recv pc lv st w k n = some r) (hr : XRs p l e R s m args below meth c Q cc nL D cl tA A as0 ex ret r) : XSat p l e R s m args below meth c Q nL D cl tA A as0 ex (pc, lv, st, w, k, n) := by
  unfold xh_call at h
  dsimp only at h
  by_cases hq : na ≤ st.length ∧ ((st.drop na).map xcat).sum ≤ 8 ∧ xm_f N + 1 ≤ xm_f M ∧ 8 + (xm_l N + 11) + xm_o N ≤ xm_o M ∧ k + xm_k N ≤ xm_k M ∧ n + xm_n N ≤ xm_n M ∧ (!recv || xrecv w (xm_i N) (st.take na).reverse) = true
  · rw [if_pos hq] at h
    obtain ⟨q1, q2, q3, q4, q5, q6, q7⟩ := hq
    cases hc : cf j (st.take na).reverse w with
    | none => rw [hc] at h; cases h
    | some o =>
      obtain ⟨ro, w'⟩ := o
      rw [hc] at h
      cases h
      intro H locs ls vs lw ws ⟨h1, h2, h3, h4, h5, h6, h7, h8⟩
      have hF := x_free h5 h6 hA
      have ht : xl_in (xad ws) ex (st.take na) (vs.take na) := h2.take na
      have hdr : xl_in (xad ws) ex (st.drop na) (vs.drop na) := h2.drop na
      have hlen := ht.len
      rw [List.length_take, List.length_take, Nat.min_eq_left q1] at hlen
      have hvals := ht.rev
      have e0 : vs = ((vs.take na).reverse).reverse ++ vs.drop na := by rw [List.reverse_reverse, List.take_append_drop]
      have hl2 : (vs.take na).reverse.length = na := by rw [List.length_reverse, List.length_take]; exact hlen
      have hrun := run ro w' (vs.take na).reverse (vs.drop na) ws H locs ls hl2 h7.1 hvals h3 h4 q7 ⟨by rw [hRf]; exact q3, by rw [hRo]; exact q4⟩ ⟨by rw [hRk]; exact q5, by rw [hRn]; exact q6⟩ (by
        show 2 * 0 + _ ≤ 8
        rw [hdr.cats]
        omega) (hcf _ _ _ _ hc _ ws H.size hvals h3) (x_pre hE h4 h5 h6 hF)
      rw [← e0] at hrun
      refine x_back hrun h6 hF (fun rv ws' H1 locs1 a1 a2 a3 a4 a5 a6 => ?_)
      obtain ⟨tl, htl⟩ := a5
      refine hr H1 locs1 ls (rv.toList ++ vs.drop na) lw ws' ⟨by rw [htl]; exact h1.mono tl, ?_, a4, a2, a3, a6, h7, ?_⟩
      · have hd2 : xl_in (xad ws') ex (st.drop na) (vs.drop na) := by rw [htl]; exact hdr.mono tl
        cases ro with
        | none =>
          have a1 : rv = none := a1
          subst a1
          exact hd2
        | some x =>
          obtain ⟨u, rfl, hu⟩ := a1
          exact ⟨u, vs.drop na, rfl, hu, hd2⟩
      · obtain ⟨t0, ht0⟩ := h8
        exact ⟨t0 ++ tl, by rw [htl, ht0, List.append_assoc]⟩
  · rw [if_neg hq] at h
    cases h
end XO
end
section
/-! ===== one instruction, a run, a method ===== -/
def xlen : Instr → Nat
  | .bipush _ => 2
  | .sipush _ => 3
  | .ldc _ => 2
  | .ldc_w _ => 3
  | .ldc2_w _ => 3
  | .iload _ => 2
  | .lload _ => 2
  | .aload _ => 2
  | .istore _ => 2
  | .lstore _ => 2
  | .astore _ => 2
  | .iinc _ _ => 3
  | .ifCond _ _ => 3
  | .if_icmp _ _ => 3
  | .ifnull _ => 3
  | .ifnonnull _ => 3
  | .goto _ => 3
  | .newarray _ => 2
  | .anewarray _ => 3
  | .new _ => 3
  | .getfield _ => 3
  | .putfield _ => 3
  | .getstatic _ => 3
  | .invokevirtual _ => 3
  | .invokestatic _ => 3
  | .invokespecial _ => 3
  | _ => 1
def xdec (cc : ByteArray) (pc : Nat) : Instr → Prop
  | .tableswitch d lo hi o => ∃ n, decode cc pc = .ok (.tableswitch d lo hi o, n)
  | i => decode cc pc = .ok (i, xlen i)
/-- the words of one of Math's three -/
def xmw (Ts : List Cond) (own : String) (j : Nat) (y : MethodName) (cc : ByteArray) (n : Nat) : Prop := Cond.methodLink own j y ∈ Ts ∧ Cond.static y ∈ Ts ∧ Cond.initialized "java/lang/Math" ∈ Ts ∧ Cond.code y cc n (some .int) ∈ Ts
/-- what the tables say of an instruction -/
def xaux (cl : List vw_C) (Ts : List Cond) (MT : Nat → Option XM) (FT : Nat → Nat → Option FieldType) (FD : Nat → Option (List XV)) (TY : Nat → Option FieldType) (SV : List (String × String × String × Nat)) (NW : List (String × Nat × MethodName × String)) (NF : List (String × Nat × String × String × String × String)) (M : XM) (pc a b : Nat) (z : Int) : Instr → Prop
  | .iconst v => (Int32.ofInt v).toInt = z
  | .bipush v => ((Int8.ofInt v).toInt32).toInt = z
  | .sipush v => ((Int16.ofInt v).toInt32).toInt = z
  | .ldc j => ∃ v : Int32, Cond.constant (xm_y M).cls j v ∈ Ts ∧ v.toInt = z
  | .ldc_w j => ∃ v : Int32, Cond.constant (xm_y M).cls j v ∈ Ts ∧ v.toInt = z
  | .lconst v => (Int64.ofNat (v : Nat)).toInt = z
  | .ldc2_w j => ∃ v : Int64, Cond.constantLong (xm_y M).cls j v ∈ Ts ∧ v.toInt = z
  | .iinc _ g => (Int32.ofInt g).toInt = z
  | .ifCond _ o => (pc : Int) + o = (a : Int)
  | .if_icmp _ o => (pc : Int) + o = (a : Int)
  | .ifnull o => (pc : Int) + o = (a : Int)
  | .ifnonnull o => (pc : Int) + o = (a : Int)
  | .goto o => (pc : Int) + o = (a : Int)
  | .newarray t => ((t = .int ∧ a = 0) ∨ (t = .long ∧ a = 1) ∨ (t = .boolean ∧ a = 2)) ∧ TY a = some (newarray.typeOf t) ∧ Cond.arrayClass (newarray.typeOf t) ∈ Ts
  | .anewarray j => 3 ≤ a ∧ a < 7 ∧ ∃ C, TY a = some (.object C) ∧ Cond.classLink (xm_y M).cls j C ∈ Ts ∧ C ∈ xAO
  | .new j => ∃ (C : String) (T : u_T) (N : Nat) (ty : Nat → FieldType) (fs : List XV) (fv : List Value), xclo cl Ts a C T N ty ∧ FD a = some fs ∧ fs.length = N ∧ (∀ as ex : List Nat, xl_in as ex fs fv) ∧ (∀ j, j < N → defaultValue (ty j) = vp_V fv j) ∧ Cond.classLink (xm_y M).cls j C ∈ Ts ∧ Cond.instantiable C N ∈ Ts ∧ Cond.initialized C ∈ Ts
  | .getfield j => ∃ (C : String) (T : u_T) (N : Nat) (ty : Nat → FieldType), xclo cl Ts a C T N ty ∧ b < N ∧ Cond.fieldLink (xm_y M).cls j (T b).1 (T b).2.1 (T b).2.2.1 ∈ Ts
  | .putfield j => ∃ (C : String) (T : u_T) (N : Nat) (ty : Nat → FieldType), xclo cl Ts a C T N ty ∧ b < N ∧ Cond.fieldLink (xm_y M).cls j (T b).1 (T b).2.1 (T b).2.2.1 ∈ Ts ∧ FT a b = some (ty b) ∧ ((T b).2.2.2 = false ∨ ((T b).2.2.2 = true ∧ (xm_y M).name = "<init>" ∧ (T b).1 = (xm_y M).cls))
  | .getstatic j => ∃ C n d, (C, n, d, a) ∈ SV ∧ (Cond.fieldLink (xm_y M).cls j C n d ∈ Ts ∨ ∃ h, ((xm_y M).cls, j, C, n, d, h) ∈ NF)
  | .invokevirtual j => ∃ (N : XM) (C : String), MT a = some N ∧ Cond.methodLink (xm_y M).cls j (xm_y N) ∈ Ts ∧ Cond.instanceMethod (xm_y N) ∈ Ts ∧ Cond.selects C (xm_y N) (xm_y N) ∈ Ts ∧ Cond.initialized C ∈ Ts ∧ Cond.code (xm_y N) (xm_c N) (xm_l N) (xm_r N) ∈ Ts ∧ ((xm_y N).cls = C ∧ (xm_y N).cls ≠ "java/lang/invoke/MethodHandle" ∧ (xm_y N).cls ≠ "java/lang/invoke/VarHandle" ∧ (parseMethodDescriptor (xm_y N).desc).map (fun d => d.parameters.length) = some (b - 1)) ∧ ∃ o : vw_C, cl[xm_i N]? = some o ∧ o.1 = C
  | .invokestatic j => (a = 7000 ∧ xmw Ts (xm_y M).cls j Lib.Math.max.name Lib.Math.max.code 2) ∨ (a = 7001 ∧ xmw Ts (xm_y M).cls j Lib.Math.min.name Lib.Math.min.code 2) ∨ (a = 7002 ∧ xmw Ts (xm_y M).cls j Lib.Math.abs.name Lib.Math.abs.code 1) ∨ (a < 7000 ∧ ∃ N : XM, MT a = some N ∧ (Cond.methodLink (xm_y M).cls j (xm_y N) ∈ Ts ∨ ∃ h, ((xm_y M).cls, j, xm_y N, h) ∈ NW) ∧ Cond.static (xm_y N) ∈ Ts ∧ Cond.initialized (xm_y N).cls ∈ Ts ∧ Cond.code (xm_y N) (xm_c N) (xm_l N) (xm_r N) ∈ Ts ∧ ((xm_y N).cls ≠ "java/lang/invoke/MethodHandle" ∧ (xm_y N).cls ≠ "java/lang/invoke/VarHandle" ∧ (parseMethodDescriptor (xm_y N).desc).map (fun d => d.parameters.length) = some b))
  | .invokespecial j => (a = 9999 ∧ Cond.methodLink (xm_y M).cls j Lib.objectInit ∈ Ts ∧ Cond.instanceMethod Lib.objectInit ∈ Ts ∧ Cond.code Lib.objectInit ⟨#[0xb1]⟩ 1 none ∈ Ts) ∨ (a ≠ 9999 ∧ ∃ N : XM, MT a = some N ∧ (Cond.methodLink (xm_y M).cls j (xm_y N) ∈ Ts ∨ ∃ h, ((xm_y M).cls, j, xm_y N, h) ∈ NW) ∧ Cond.instanceMethod (xm_y N) ∈ Ts ∧ Cond.initialized (xm_y N).cls ∈ Ts ∧ Cond.code (xm_y N) (xm_c N) (xm_l N) (xm_r N) ∈ Ts ∧ ((xm_y N).cls ≠ "java/lang/invoke/MethodHandle" ∧ (xm_y N).cls ≠ "java/lang/invoke/VarHandle" ∧ (parseMethodDescriptor (xm_y N).desc).map (fun d => d.parameters.length) = some (b - 1)) ∧ (xm_y N).name = "<init>" ∧ xm_r N = none)
  | .ireturn => xrt .ireturn (xm_r M)
  | .lreturn => xrt .lreturn (xm_r M)
  | .areturn => xrt .areturn (xm_r M)
  | .return_ => xrt .return_ (xm_r M)
  | _ => True
theorem x_sl0 (k : Int64) : (0 : Int64) <<< k = 0 := by
  apply Int64.toBitVec_inj.mp
  simp
theorem x_sr0 (k : Int64) : (0 : Int64) >>> k = 0 := by
  apply Int64.toBitVec_inj.mp
  simp
theorem x_ur0 (k : UInt64) : ((0 : Int64).toUInt64 >>> k).toInt64 = 0 := by
  have h : (0 : Int64).toUInt64 = 0 := rfl
  rw [h]
  apply Int64.toBitVec_inj.mp
  simp
theorem xrecv_in {w : XW} {ci : Nat} {as ex : List Nat} {xs : List XV} {vals : List Value} (h : xrecv w ci xs = true) (hv : xl_in as ex xs vals) : ∃ (b : Nat) (As : List Value) (q : Nat) (fs : List XV), vals = .ref b :: As ∧ as[q]? = some b ∧ w[q]? = some (.inl (ci, fs)) := by
  match xs, h, hv with
  | .inr (.inr q) :: xs, h, hv =>
    obtain ⟨v, As, rfl, h1, _⟩ := hv
    have h : (q.1 == 1 && (match w[q.2]? with
      | some (.inl x) => x.1 == ci
      | _ => false)) = true := h
    rw [Bool.and_eq_true] at h
    have hq : q.1 = 1 := by simpa using h.1
    have h2 := h.2
    rcases h1 with ⟨h0, _⟩ | ⟨b, rfl, ⟨_, hb⟩ | ⟨h0, _⟩⟩
    · omega
    · cases hw : w[q.2]? with
      | none => rw [hw] at h2; cases h2
      | some o =>
        rw [hw] at h2
        match o, h2, hw with
        | .inl (c0, fs), h2, hw =>
          have h2 : c0 = ci := by simpa using h2
          subst h2
          exact ⟨b, As, q.2, fs, rfl, hb, hw⟩
        | .inr _, h2, _ => cases h2
    · omega
section XI
variable {p : Program} {l : Launch} {e : Env} {R : Room} {s : State} {m : MethodId} {args : Array Value} {below : List Frame} {meth : Method} {c : Code} {Q : State → Prop} {D : va_G} {cl : List vw_C} {tys : List (ClassId × FieldType)} {tA : Nat → ClassId} {A : Nat → Prop} {as0 ex : List Nat} {exc : List (List XV)} {pc : Nat} {lv : XL} {st : List XV} {w : XW} {k n : Nat} {r : XR} {Ts : List Cond} {SV : List (String × String × String × Nat)} {NW : List (String × Nat × MethodName × String)} {NF : List (String × Nat × String × String × String × String)} {cf : XF} {MT : Nat → Option XM} {FT : Nat → Nat → Option FieldType} {FD : Nat → Option (List XV)} {TY : Nat → Option FieldType} {TC : Nat → Option Nat} {M : XM} {i : Instr} {a b : Nat} {z : Int}
set_option maxHeartbeats 4000000 in
theorem xins_ok (hx : p.tables.exec = Jvm.exec) (hb : c.code = xm_c M) (hml : c.maxLocals = xm_l M) (hown : s.vm.findClass (xm_y M).cls = some m.cls) (hname : (xm_y M).name = "<init>" → meth.name = "<init>") (hts : ∀ w ∈ Ts, w.before args s = true) (hG : ∀ w ∈ Ts, (w.onTables && w.keeps) = true ∨ ∃ ty, w = .arrayClass ty) (hE : XEnv D cl tys ex exc SV NW NF A s) (hA : ∀ q, s.heap.size ≤ q → A q) (hRf : R.frames = xm_f M) (hRo : R.locals = xm_o M) (hRk : R.cells = xm_k M) (hRn : R.slots = xm_n M) (hT : xty tys tA) (hTY : ∀ t C, 3 ≤ t → t < 7 → TY t = some (.object C) → tys[t]? = some (tA t, .object C)) (hTC : ∀ t b, TC t = some b → 3 ≤ t ∧ t < 7 ∧ ∃ o : vw_C, cl[b]? = some o ∧ tys[t]? = some (tA t, .object o.1))
    (hcf : ∀ (j : Nat) (N : XM) (as : List XV) (w : XW) (ro : Option XV) (w' : XW), MT j = some N → cf j as w = some (ro, w') → XMet l D cl tys tA ex exc SV NW NF Ts N as w ro w')
    (od : xdec (xm_c M) pc i) (oa : xaux cl Ts MT FT FD TY SV NW NF M pc a b z i) (h : xins cf MT FT FD TY TC exc M i a b z pc lv st w k n = some r) (hr : XRs p l e R s m args below meth c Q (xm_c M) (xm_l M) D cl tA A as0 ex (xm_r M) r) : XSat p l e R s m args below meth c Q (xm_l M) D cl tA A as0 ex (pc, lv, st, w, k, n) := by
  have hK := hE.1
  have hX := hE.2.1
  have hGI : ∀ N : XM, Cond.code (xm_y N) (xm_c N) (xm_l N) (xm_r N) ∈ Ts → GoodIn Ts (xws Ts N) := fun N hc w hw => by
    rcases List.mem_cons.mp hw with rfl | hw
    · exact ⟨hc, hG _ hc⟩
    · exact ⟨hw, hG _ hw⟩
  have one : ∀ (v : Int32) (z : Int), v.toInt = z → ∀ as : List Nat, xv_in as ex (xi z) (.int v) := fun v z e0 as => ⟨v, rfl, by rw [e0]; exact Int.le_refl _, by rw [e0]; exact Int.le_refl _⟩
  have oneL : ∀ (v : Int64) (z : Int), v.toInt = z → ∀ as : List Nat, xv_in as ex (.inr (.inl (some z))) (.long v) := fun v z e0 as => ⟨v, rfl, fun y hy => by cases hy; exact e0⟩
  cases i with
  | iconst v => exact xo_push (one _ _ oa) h hr (fun H locs ls vs _ kk => lv_iconst hx hb od rfl kk)
  | bipush v => exact xo_push (one _ _ oa) h hr (fun H locs ls vs _ kk => lv_bipush hx hb od rfl kk)
  | sipush v => exact xo_push (one _ _ oa) h hr (fun H locs ls vs _ kk => lv_sipush hx hb od rfl kk)
  | ldc j =>
    obtain ⟨v, hv, hz⟩ := oa
    exact xo_push (one _ _ hz) h hr (fun H locs ls vs _ kk => lv_ldc hx hb hown (hts _ hv) od kk)
  | ldc_w j =>
    obtain ⟨v, hv, hz⟩ := oa
    exact xo_push (one _ _ hz) h hr (fun H locs ls vs _ kk => lv_ldcw hx hb hown (hts _ hv) od kk)
  | lconst v => exact xo_push (oneL _ _ oa) h hr (fun H locs ls vs _ kk => lv_lconst hx hb od rfl kk)
  | ldc2_w j =>
    obtain ⟨v, hv, hz⟩ := oa
    exact xo_push (oneL _ _ hz) h hr (fun H locs ls vs _ kk => lv_ldc2 hx hb hown (hts _ hv) od kk)
  | aconst_null => exact xo_push (v := .inr (.inr (0, 0))) (val := .null) (fun _ => Or.inl ⟨rfl, rfl⟩) h hr (fun H locs ls vs _ kk => lv_null hx hb od kk)
  | iload_n j => exact xo_load h hr (fun v H locs ls vs hk hl kk => by obtain ⟨x, rfl⟩ := hk; exact lv_iload_n hx hb od rfl hl kk)
  | iload j => exact xo_load h hr (fun v H locs ls vs hk hl kk => by obtain ⟨x, rfl⟩ := hk; exact lv_iload hx hb od hl kk)
  | lload_n j => exact xo_load h hr (fun v H locs ls vs hk hl kk => by obtain ⟨x, rfl⟩ := hk; exact lv_lload_n hx hb od rfl hl kk)
  | lload j => exact xo_load h hr (fun v H locs ls vs hk hl kk => by obtain ⟨x, rfl⟩ := hk; exact lv_lload hx hb od hl kk)
  | aload_n j =>
    exact xo_load h hr (fun v H locs ls vs hk hl kk => by
      rcases hk with rfl | ⟨x, rfl⟩
      · exact lv_aload_nN hx hb od rfl hl kk
      · exact lv_aload_n hx hb od rfl hl kk)
  | aload j =>
    exact xo_load h hr (fun v H locs ls vs hk hl kk => by
      rcases hk with rfl | ⟨x, rfl⟩
      · exact lv_aloadN hx hb od hl kk
      · exact lv_aload hx hb od hl kk)
  | istore_n j => exact xo_store h hr (fun v H locs ls vs lw hk hl hj kk => by obtain ⟨x, rfl⟩ := hk; exact lv_istore_n hx hb od rfl hl hj rfl kk)
  | istore j => exact xo_store h hr (fun v H locs ls vs lw hk hl hj kk => by obtain ⟨x, rfl⟩ := hk; exact lv_istore hx hb od hl hj rfl kk)
  | lstore_n j => exact xo_store2 h hr (fun v H locs ls vs lw hk hl hj kk => by obtain ⟨x, rfl⟩ := hk; exact lv_lstore_n hx hb od rfl hl hj rfl kk)
  | lstore j => exact xo_store2 h hr (fun v H locs ls vs lw hk hl hj kk => by obtain ⟨x, rfl⟩ := hk; exact lv_lstore hx hb od hl hj rfl kk)
  | astore_n j =>
    exact xo_store h hr (fun v H locs ls vs lw hk hl hj kk => by
      rcases hk with rfl | ⟨x, rfl⟩
      · exact lv_astore_nN hx hb od rfl hl hj rfl kk
      · exact lv_astore_n hx hb od rfl hl hj rfl kk)
  | astore j =>
    exact xo_store h hr (fun v H locs ls vs lw hk hl hj kk => by
      rcases hk with rfl | ⟨x, rfl⟩
      · exact lv_astoreN hx hb od hl hj rfl kk
      · exact lv_astore hx hb od hl hj rfl kk)
  | iinc j g => exact xo_iinc hx hb od oa h hr
  | iadd => exact xo_bin xadd_in h hr (fun x y H locs ls vs kk => lv_iadd hx hb od kk)
  | isub => exact xo_bin xsub_in h hr (fun x y H locs ls vs kk => lv_isub hx hb od kk)
  | imul => exact xo_bin (xe2_in _) h hr (fun x y H locs ls vs kk => lv_imul hx hb od kk)
  | iand => exact xo_bin (xe2_in _) h hr (fun x y H locs ls vs kk => lv_iand hx hb od kk)
  | ior => exact xo_bin (xe2_in _) h hr (fun x y H locs ls vs kk => lv_ior hx hb od kk)
  | ixor => exact xo_bin (xe2_in _) h hr (fun x y H locs ls vs kk => lv_ixor hx hb od kk)
  | ishl => exact xo_bin (xe2_in _) h hr (fun x y H locs ls vs kk => lv_ishl hx hb od kk)
  | ishr => exact xo_bin (xe2_in _) h hr (fun x y H locs ls vs kk => lv_ishr hx hb od kk)
  | iushr => exact xo_bin (xe2_in _) h hr (fun x y H locs ls vs kk => lv_iushr hx hb od rfl kk)
  | idiv => exact xo_div (xe2_in _) h hr (fun x y H locs ls vs hy kk => lv_idiv hx hb od hy kk)
  | irem => exact xo_div (xe2_in _) h hr (fun x y H locs ls vs hy kk => lv_irem hx hb od hy kk)
  | ineg => exact xo_un h hr (fun x H locs ls vs kk => lv_ineg hx hb od kk)
  | i2b => exact xo_un h hr (fun x H locs ls vs kk => lv_i2b hx hb od rfl kk)
  | lneg => exact xo_lneg h hr (fun x H locs ls vs kk => lv_lneg hx hb od kk)
  | ladd => exact xo_lbin h hr (fun x y H locs ls vs kk => lv_ladd hx hb od kk)
  | lsub => exact xo_lbin h hr (fun x y H locs ls vs kk => lv_lsub hx hb od kk)
  | lmul => exact xo_lbin h hr (fun x y H locs ls vs kk => lv_lmul hx hb od kk)
  | land => exact xo_lbin h hr (fun x y H locs ls vs kk => lv_land hx hb od kk)
  | lor => exact xo_lbin h hr (fun x y H locs ls vs kk => lv_lor hx hb od kk)
  | lxor => exact xo_lbin h hr (fun x y H locs ls vs kk => lv_lxor hx hb od kk)
  | lshl => exact xo_lsh (g := fun x y => x <<< (y.toInt64 &&& 63)) (fun _ => x_sl0 _) h hr (fun x y H locs ls vs kk => lv_lshl hx hb od rfl kk)
  | lshr => exact xo_lsh (g := fun x y => x >>> (y.toInt64 &&& 63)) (fun _ => x_sr0 _) h hr (fun x y H locs ls vs kk => lv_lshr hx hb od rfl kk)
  | lushr => exact xo_lsh (g := fun x y => (x.toUInt64 >>> (y.toInt64.toUInt64 &&& Int64.toUInt64 63)).toInt64) (fun _ => x_ur0 _) h hr (fun x y H locs ls vs kk => lv_lushr hx hb od rfl kk)
  | i2l => exact xo_i2l h hr (fun x H locs ls vs kk => lv_i2l hx hb od rfl kk)
  | l2i => exact xo_l2i h hr (fun x H locs ls vs kk => lv_l2i hx hb od rfl kk)
  | lcmp => exact xo_lcmp h hr (fun x y H locs ls vs kk => W.lcmp hx hb od kk)
  | dup => exact xo_dup h hr (fun v H locs ls vs hv kk => lv_dup hx hb od hv kk)
  | dup2 => exact xo_dup2 hx hb od h hr
  | ifCond q o => exact xo_if hx hb od oa h hr
  | if_icmp q o => exact xo_icmp hx hb od oa h hr
  | ifnull o => exact xo_ifnull hx hb od oa h hr
  | ifnonnull o => exact xo_ifnonnull hx hb od oa h hr
  | goto o =>
    cases h
    intro H locs ls vs lw ws hat
    exact lv_goto hx hb od oa (hr H locs ls vs lw ws hat)
  | tableswitch d lo hi offs =>
    obtain ⟨len, od⟩ := od
    exact xo_table hx hb od h hr
  | iaload => exact xo_ald (Or.inl ⟨rfl, rfl, rfl⟩) hx hb od hK hT hX h hr
  | laload => exact xo_ald (Or.inr (Or.inl ⟨rfl, rfl, rfl⟩)) hx hb od hK hT hX h hr
  | baload => exact xo_ald (Or.inr (Or.inr (Or.inl ⟨rfl, rfl, rfl⟩))) hx hb od hK hT hX h hr
  | aaload => exact xo_ald (Or.inr (Or.inr (Or.inr ⟨rfl, rfl, rfl⟩))) hx hb od hK hT hX h hr
  | iastore => exact xo_ast (Or.inl ⟨rfl, rfl, rfl⟩) (fun e0 => by omega) hx hb od hK hT h hr
  | lastore => exact xo_ast (Or.inr (Or.inl ⟨rfl, rfl, rfl⟩)) (fun e0 => by omega) hx hb od hK hT h hr
  | bastore =>
    match st, h with
    | x :: st, h =>
      have h : (if xbool x = true then xh_ast 2 0 pc lv (x :: st) w k n else none) = some r := h
      by_cases hz : xbool x = true
      · rw [if_pos hz] at h
        exact xo_ast (Or.inr (Or.inr ⟨rfl, rfl, rfl⟩)) (fun _ y st' e0 => by cases e0; exact hz) hx hb od hK hT h hr
      · rw [if_neg hz] at h
        cases h
  | aastore => exact xo_aast hTC hx hb od hK h hr
  | arraylength => exact xo_alen hx hb od hK hT hX h hr
  | newarray t =>
    obtain ⟨o1, o2, o3⟩ := oa
    have h : xh_newa 2 a (TY a) R.cells R.slots pc lv st w k n = some r := by rw [hRk, hRn]; exact h
    exact xo_newa o1 (hts _ o3) hx hb od hK hT hA o2 h hr
  | anewarray j =>
    obtain ⟨o1, o2, C, o3, o4, o5⟩ := oa
    have h : xh_newa 3 a (TY a) R.cells R.slots pc lv st w k n = some r := by rw [hRk, hRn]; exact h
    exact xo_newq o1 o2 (hTY a C o1 o2 o3) hown (hts _ o4) (hE.2.2.2.2.2 _ o5) hx hb od hK hA o3 h hr
  | new j =>
    obtain ⟨C, T, N, ty, fs, fv, o1, o2, o3, o4, o5, o6, o7, o8⟩ := oa
    have h : xh_new a (FD a) R.cells R.slots pc lv st w k n = some r := by rw [hRk, hRn]; exact h
    exact xo_new o1 o3 (fun as => o4 as ex) o5 hts hown (hts _ o6) (hts _ o7) (hts _ o8) hx hb od hK hA o2 h hr
  | getfield j =>
    obtain ⟨C, T, N, ty, o1, o2, o3⟩ := oa
    exact xo_get o1 o2 hts hown (hts _ o3) hx hb od hK h hr
  | putfield j =>
    obtain ⟨C, T, N, ty, o1, o2, o3, o4, o5⟩ := oa
    exact xo_put o1 o2 (o5.imp id (fun q => ⟨q.1, hname q.2.1, q.2.2⟩)) hts hown (hts _ o3) hx hb od hK o4 h hr
  | getstatic j =>
    obtain ⟨C, n0, d0, o1, o2⟩ := oa
    obtain ⟨a', ha, hZ⟩ := hE.2.2.1 _ o1
    refine xo_push (v := .inr (.inr (2, a))) (val := .ref a') (fun _ => Or.inr ⟨a', rfl, Or.inr ⟨rfl, ha⟩⟩) h hr (fun H locs ls vs hS kk => ?_)
    rcases o2 with o2 | ⟨h0, o2⟩
    · exact va_gets hx hb hZ hS hown (hts _ o2) (fun _ h9 => h9) od kk
    · exact va_getsN hx hb hZ hS hown (va_Nw.use rfl (hE.2.2.2.2.1 _ o2)) (fun _ h9 => h9) od kk
  | invokevirtual j =>
    obtain ⟨N, C, o1, o2, o3, o4, o5, o6, o7, o, o8, o9⟩ := oa
    have h : xh_call cf M (MT a) a b true pc lv st w k n = some r := h
    rw [o1] at h
    refine xo_call hE hA hRf hRo hRk hRn (fun as w ro w' hc => hcf a N as w ro w' o1 hc) (fun ro w' vals rest ws H locs ls e1 e2 e3 e4 e5 e6 e7 e8 e9 hM hp => ?_) h hr
    obtain ⟨b0, As, q, fs, rfl, g1, g2⟩ := xrecv_in (by simpa using e6) e3
    obtain ⟨e0, g3, fv, rfl, g4⟩ := e4.at g2 g1
    have hst : (Value.ref b0 :: As).reverse ++ rest = As.reverse ++ .ref b0 :: rest := by rw [List.reverse_cons, List.append_assoc]; rfl
    rw [hst] at e9 ⊢
    have hgood : GoodIn Ts (wsV (xm_y M).cls j C (xm_y N) (xws Ts N)) := fun w hw => by
      unfold wsV at hw
      rcases List.mem_append.mp hw with hw | hw
      · have hm : w ∈ Ts := by
          simp only [List.mem_cons, List.mem_nil_iff, or_false] at hw
          rcases hw with rfl | rfl | rfl | rfl
          · exact o2
          · exact o3
          · exact o4
          · exact o5
        exact ⟨hm, hG _ hm⟩
      · exact hGI N o6 w hw
    exact va_runV ⟨hx, hb, hml, hown, hts⟩ hM (cwV (b - 1) hts hgood rfl rfl rfl o7 e7) ⟨hp.1, by
      have := va_recv hK e5 (ci := xm_i N) (q0 := q) o8 g3
      rw [o9] at this
      exact this, hp.2⟩ rfl (by simp at e1; omega) e2 rfl e9 od e8
  | invokestatic j =>
    have h : (if a < 7000 then xh_call cf M (MT a) a b false pc lv st w k n else if a = 7000 then xh_m2 (fun x y => if x < y then y else x) M pc lv st w k n else if a = 7001 then xh_m2 (fun x y => if y < x then y else x) M pc lv st w k n else if a = 7002 then xh_m1 (fun x => if 0 ≤ x then x else 0 - x) M pc lv st w k n else none) = some r := h
    rcases oa with ⟨rfl, w1, w2, w3, w4⟩ | ⟨rfl, w1, w2, w3, w4⟩ | ⟨rfl, w1, w2, w3, w4⟩ | ⟨o0, N, o1, o2, o3, o4, o5, o6⟩
    · exact xo_m2 (M := M) h hr (fun x y H locs ls vs e1 e2 e3 e4 e5 kk => va_mmax hx hb (hml.trans e1.symm) hown (hts _ w1) (hts _ w2) (hts _ w3) (hts _ w4) (by rw [hRf]; exact e2) (by rw [hRo]; exact e3) (by rw [hRk]; exact e4) (by rw [hRn]; exact e5) od kk)
    · exact xo_m2 (M := M) h hr (fun x y H locs ls vs e1 e2 e3 e4 e5 kk => va_mmin hx hb (hml.trans e1.symm) hown (hts _ w1) (hts _ w2) (hts _ w3) (hts _ w4) (by rw [hRf]; exact e2) (by rw [hRo]; exact e3) (by rw [hRk]; exact e4) (by rw [hRn]; exact e5) od kk)
    · exact xo_m1 (M := M) h hr (fun x H locs ls vs e1 e2 e3 e4 e5 kk => va_mabs hx hb (hml.trans e1.symm) hown (hts _ w1) (hts _ w2) (hts _ w3) (hts _ w4) (by rw [hRf]; exact e2) (by rw [hRo]; exact e3) (by rw [hRk]; exact e4) (by rw [hRn]; exact e5) od kk)
    rw [if_pos o0, o1] at h
    refine xo_call hE hA hRf hRo hRk hRn (fun as w ro w' hc => hcf a N as w ro w' o1 hc) (fun ro w' vals rest ws H locs ls e1 e2 e3 e4 e5 e6 e7 e8 e9 hM hp => ?_) h hr
    rcases o2 with o2 | ⟨h0, o2⟩
    · have hgood : GoodIn Ts (va_wsS (xm_y M).cls j (xm_y N) (xws Ts N)) := fun w hw => by
        unfold va_wsS at hw
        rcases List.mem_append.mp hw with hw | hw
        · have hm : w ∈ Ts := by
            simp only [List.mem_cons, List.mem_nil_iff, or_false] at hw
            rcases hw with rfl | rfl | rfl
            · exact o2
            · exact o3
            · exact o4
          exact ⟨hm, hG _ hm⟩
        · exact hGI N o5 w hw
      exact va_runS ⟨hx, hb, hml, hown, hts⟩ hM (va_cwS b hts hgood rfl rfl rfl o6 e7) hp rfl e1 e2 rfl e9 od e8
    · exact va_runSN ⟨hx, hb, hml, hown, hts⟩ hM ⟨va_cnB b hts (hGI N o5) rfl rfl rfl (hE.2.2.2.1 _ o2) (hts _ o4) o6 e7, hts _ o3, trivial⟩ hp rfl e1 e2 rfl e9 od e8
  | invokespecial j =>
    have h : (if a = 9999 then xh_oinit M pc lv st w k n else xh_call cf M (MT a) a b true pc lv st w k n) = some r := h
    rcases oa with ⟨o1, o2, o3, o4⟩ | ⟨o0, N, o1, o2, o3, o4, o5, o6, o7, o8⟩
    · rw [if_pos o1] at h
      exact xo_oinit hRf hRo hml hown (hts _ o2) (hts _ o3) (hts _ o4) hx hb od h hr
    · rw [if_neg o0, o1] at h
      refine xo_call hE hA hRf hRo hRk hRn (fun as w ro w' hc => hcf a N as w ro w' o1 hc) (fun ro w' vals rest ws H locs ls e1 e2 e3 e4 e5 e6 e7 e8 e9 hM hp => ?_) h hr
      obtain ⟨b0, As, q, fs, rfl, g1, g2⟩ := xrecv_in (by simpa using e6) e3
      have hst : (Value.ref b0 :: As).reverse ++ rest = As.reverse ++ .ref b0 :: rest := by rw [List.reverse_cons, List.append_assoc]; rfl
      rw [hst] at e9 ⊢
      have hw1 : xws Ts N = Cond.code (xm_y N) (xm_c N) (xm_l N) none :: Ts := by unfold xws; rw [o8]
      rcases o2 with o2 | ⟨h0, o2⟩
      · exact va_runI ⟨hx, hb, hml, hown, hts⟩ hM (cwI (b - 1) hts (hGI N o5) hw1 rfl rfl (hts _ o4) (hts _ o2) (hts _ o3) o7 o6 e7) hp rfl (by simp at e1; omega) e2 rfl e9 od e8
      · exact va_runIN ⟨hx, hb, hml, hown, hts⟩ hM ⟨va_cnB (b - 1) hts (hGI N o5) hw1 rfl rfl (hE.2.2.2.1 _ o2) (hts _ o4) o6 e7, o7, hts _ o3⟩ hp rfl (by simp at e1; omega) e2 rfl e9 od e8
  | ireturn =>
    match st, h with
    | [x], h =>
      have h : (if xkd x = 0 ∧ (!xz (xm_r M) || xbool x) = true then some (Sum.inr (some x, w, k, n)) else none) = some r := h
      by_cases hq : xkd x = 0 ∧ (!xz (xm_r M) || xbool x) = true
      · rw [if_pos hq] at h
        cases h
        intro H locs ls vs lw ws ⟨h1, h2, h3, h4, h5, h6, h7, h8⟩
        obtain ⟨v, _, rfl, hv, rfl⟩ := h2
        have hk := hv.vk
        rw [hq.1] at hk
        obtain ⟨y, rfl⟩ := hk
        exact hr pc .ireturn H locs ls (some (.int y)) ws od oa ⟨y, rfl⟩ ⟨_, rfl, hv⟩ (fun hz x' e0 => by
          cases e0
          have hb2 := hq.2
          rw [hz] at hb2
          exact x_bool01 (by simpa using hb2) hv) h3 h4 h5 h6 h8
      · rw [if_neg hq] at h
        cases h
  | lreturn =>
    match st, h with
    | [x], h =>
      have h : (if xkd x = 1 ∧ (!xz none || xbool x) = true then some (Sum.inr (some x, w, k, n)) else none) = some r := h
      by_cases hq : xkd x = 1 ∧ (!xz none || xbool x) = true
      · rw [if_pos hq] at h
        cases h
        intro H locs ls vs lw ws ⟨h1, h2, h3, h4, h5, h6, h7, h8⟩
        obtain ⟨v, _, rfl, hv, rfl⟩ := h2
        have hk := hv.vk
        rw [hq.1] at hk
        obtain ⟨y, rfl⟩ := hk
        exact hr pc .lreturn H locs ls (some (.long y)) ws od oa ⟨y, rfl⟩ ⟨_, rfl, hv⟩ (fun hz x' e0 => by cases e0) h3 h4 h5 h6 h8
      · rw [if_neg hq] at h
        cases h
  | areturn =>
    match st, h with
    | [x], h =>
      have h : (if xkd x = 2 ∧ (!xz none || xbool x) = true then some (Sum.inr (some x, w, k, n)) else none) = some r := h
      by_cases hq : xkd x = 2 ∧ (!xz none || xbool x) = true
      · rw [if_pos hq] at h
        cases h
        intro H locs ls vs lw ws ⟨h1, h2, h3, h4, h5, h6, h7, h8⟩
        obtain ⟨v, _, rfl, hv, rfl⟩ := h2
        have hk := hv.vk
        rw [hq.1] at hk
        refine hr pc .areturn H locs ls (some v) ws od oa ?_ ⟨_, rfl, hv⟩ (fun hz x' e0 => ?_) h3 h4 h5 h6 h8
        · rcases hk with rfl | ⟨y, rfl⟩
          · exact Or.inl rfl
          · exact Or.inr ⟨y, rfl⟩
        · rcases hk with rfl | ⟨y, rfl⟩ <;> cases e0
      · rw [if_neg hq] at h
        cases h
  | return_ =>
    match st, h with
    | [], h =>
      have h : some (Sum.inr (none, w, k, n)) = some r := h
      cases h
      intro H locs ls vs lw ws ⟨h1, h2, h3, h4, h5, h6, h7, h8⟩
      have h2 : vs = [] := h2
      subst h2
      exact hr pc .return_ H locs ls none ws od oa rfl rfl (fun hz x' e0 => by cases e0) h3 h4 h5 h6 h8
  | _ => exact nomatch (show (none : Option XR) = some r from h)
end XI
def xstep (cf : XF) (MT : Nat → Option XM) (FT : Nat → Nat → Option FieldType) (FD : Nat → Option (List XV)) (TY : Nat → Option FieldType) (TC : Nat → Option Nat) (exc : List (List XV)) (M : XM) (S : XS) : Option XR := match xfetch (xm_t M) S.1 with
  | some q => xins cf MT FT FD TY TC exc M q.1 q.2.1 q.2.2.1 q.2.2.2 S.1 S.2.1 S.2.2.1 S.2.2.2.1 S.2.2.2.2.1 S.2.2.2.2.2
  | none => none
def xrun (f : XS → Option XR) : Nat → XS → Option XR
  | 0, S => f S
  | n + 1, S => match xrun f n S with
    | some (.inl S') => xrun f n S'
    | some (.inr q) => some (.inr q)
    | none => none
def xcall (MT : Nat → Option XM) (FT : Nat → Nat → Option FieldType) (FD : Nat → Option (List XV)) (TY : Nat → Option FieldType) (TC : Nat → Option Nat) (exc : List (List XV)) (ov : XF) (fu : Nat) : Nat → XF
  | 0, _, _, _ => none
  | d + 1, j, as, w => match ov j as w with
    | some q => some q
    | none => match MT j with
      | none => none
      | some N => if (as.map xcat).sum ≤ xm_l N then (match xrun (xstep (xcall MT FT FD TY TC exc ov fu d) MT FT FD TY TC exc N) fu (0, xk_args 0 as, [], w, 0, 0) with
        | some (.inr q) => if q.2.2.1 ≤ xm_k N ∧ q.2.2.2 ≤ xm_n N then some (q.1, q.2.1) else none
        | _ => none) else none
theorem xrun_ok {f : XS → Option XR} {P : XR → Prop} (hf : ∀ S r, f S = some r → P r → P (.inl S)) : ∀ (n : Nat) (S : XS) (r : XR), xrun f n S = some r → P r → P (.inl S)
  | 0, S, r, h, hr => hf S r h hr
  | n + 1, S, r, h, hr => by
    unfold xrun at h
    cases h1 : xrun f n S with
    | none => rw [h1] at h; cases h
    | some q =>
      rw [h1] at h
      match q, h, h1 with
      | .inl S', h, h1 => exact xrun_ok hf n S _ h1 (xrun_ok hf n S' r h hr)
      | .inr q, h, h1 =>
        cases h
        exact xrun_ok hf n S _ h1 hr
theorem x_lgsl : ∀ (vs : List Value), (lg_sl vs).length = (vs.map fun v => v.category).sum
  | [] => rfl
  | v :: vs => by
    have ih := x_lgsl vs
    rcases lv_cat v with h | h
    · simp [lg_sl, h] at ih ⊢
      omega
    · simp [lg_sl, h] at ih ⊢
      omega
set_option maxHeartbeats 4000000 in
theorem xcall_met {l : Launch} {D : va_G} {cl : List vw_C} {tys : List (ClassId × FieldType)} {tA : Nat → ClassId} {ex : List Nat} {exc : List (List XV)} {Ts : List Cond} {SV : List (String × String × String × Nat)} {NW : List (String × Nat × MethodName × String)} {NF : List (String × Nat × String × String × String × String)} {MT : Nat → Option XM} {FT : Nat → Nat → Option FieldType} {FD : Nat → Option (List XV)} {TY : Nat → Option FieldType} {TC : Nat → Option Nat} {ov : XF} {fu : Nat} (hG : ∀ w ∈ Ts, (w.onTables && w.keeps) = true ∨ ∃ ty, w = .arrayClass ty) (hT : xty tys tA) (hTY : ∀ t C, 3 ≤ t → t < 7 → TY t = some (.object C) → tys[t]? = some (tA t, .object C)) (hTC : ∀ t b, TC t = some b → 3 ≤ t ∧ t < 7 ∧ ∃ o : vw_C, cl[b]? = some o ∧ tys[t]? = some (tA t, .object o.1))
    (hok : ∀ j N, MT j = some N → plainName (xm_y N).cls = true ∧ ∀ pc q, xfetch (xm_t N) pc = some q → xdec (xm_c N) pc q.1 ∧ xaux cl Ts MT FT FD TY SV NW NF N pc q.2.1 q.2.2.1 q.2.2.2 q.1)
    (hov : ∀ (j : Nat) (N : XM) (as : List XV) (w : XW) (ro : Option XV) (w' : XW), MT j = some N → ov j as w = some (ro, w') → XMet l D cl tys tA ex exc SV NW NF Ts N as w ro w') :
    ∀ (d j : Nat) (N : XM) (as : List XV) (w : XW) (ro : Option XV) (w' : XW), MT j = some N → xcall MT FT FD TY TC exc ov fu d j as w = some (ro, w') → XMet l D cl tys tA ex exc SV NW NF Ts N as w ro w' := by
  intro d
  induction d with
  | zero => intro j N as w ro w' _ h; cases h
  | succ d ih =>
    intro j N as w ro w' hN h
    unfold xcall at h
    cases ho : ov j as w with
    | some q =>
      rw [ho] at h
      cases h
      exact hov j N as w ro w' hN ho
    | none =>
      rw [ho, hN] at h
      dsimp only at h
      by_cases hc : (as.map xcat).sum ≤ xm_l N
      · rw [if_pos hc] at h
        cases hrun : xrun (xstep (xcall MT FT FD TY TC exc ov fu d) MT FT FD TY TC exc N) fu (0, xk_args 0 as, [], w, 0, 0) with
        | none => rw [hrun] at h; cases h
        | some q =>
          rw [hrun] at h
          match q, h, hrun with
          | .inl _, h, _ => cases h
          | .inr (ro', w2, k2, n2), h, hrun =>
            dsimp only at h
            by_cases hcap : k2 ≤ xm_k N ∧ n2 ≤ xm_n N
            · rw [if_pos hcap] at h
              cases h
              intro vals ws sz hvals hws
              refine Met.ofW (cc := xm_c N) (maxL := xm_l N) (ret := xm_r N) (hok j N hN).1 rfl ?_
              intro p e s m args below meth c s₁ B hml hv
              obtain ⟨rfl, hsz, hP, hD0, hE⟩ := hv
              have hx := B.exec
              have hb := B.bytes
              have hr := B.returns
              have hts0 := atoms_spec (ws := xws Ts N) B.pre
              have hts : ∀ w ∈ Ts, w.before vals.toArray s = true := fun w h => hts0 w (List.mem_cons_of_mem _ h)
              have hown : s.vm.findClass (xm_y N).cls = some m.cls := findClass_of_methodNamed B.named
              have hname : (xm_y N).name = "<init>" → meth.name = "<init>" := fun h => (name_of_methodNamed B.named B.method).1.trans h
              have hlocks := B.notSynchronized
              subst hsz
              have hD := hD0.self (sz := s.heap.size)
              have hA : ∀ q : Nat, s.heap.size ≤ q → va_A ws s.heap.size q := fun q h => Or.inr h
              have hl := lv_entry vals (n := xm_l N) (by rw [x_lgsl, hvals.cats]; exact hc)
              rw [lg_entry_eq]
              have key := xrun_ok (P := XRs p l e (headSpec (xws Ts N) (xrm N)).room s m vals.toArray below meth c (MQ below (XQ D cl tA ex ro w' ws s.heap.size) vals.toArray s (xm_k N) (xm_n N) (va_A ws s.heap.size)) (xm_c N) (xm_l N) D cl tA (va_A ws s.heap.size) (xad ws) ex (xm_r N)) (fun S r hS hR => by
                unfold xstep at hS
                cases hf : xfetch (xm_t N) S.1 with
                | none => rw [hf] at hS; cases hS
                | some q =>
                  rw [hf] at hS
                  obtain ⟨od, oa⟩ := (hok j N hN).2 S.1 q hf
                  exact xins_ok hx hb hml hown hname hts hG hE hA rfl rfl rfl rfl hT hTY hTC (fun j N as w ro w' => ih j N as w ro w') od oa hS hR) fu _ _ hrun ?_
              · exact key s.heap [] _ [] (lv_args 0 vals) ws ⟨xk_in.args 0 hvals, rfl, hws, hP, hD, va_S.rf, hl, [], by simp⟩
              · intro pc i H locs ls rv ws' hd hrt hrk ho hz hw hP hD hS htl
                refine W.widen hcap.1 hcap.2 ?_
                have fin : ∀ (o : Option Value), o = rv → ∀ t : State, t.heap = H → s.WarmedH t.vm → XQ D cl tA ex ro w' ws s.heap.size vals.toArray s (.returned o) t := fun o e0 t ht _ => ⟨⟨rv, ws', by rw [e0], ho, by rw [ht]; exact hP, hD, hw, htl⟩, hS.F ht⟩
                cases i with
                | ireturn =>
                  obtain ⟨x, rfl⟩ := hrk
                  rcases hrt with h0 | h0
                  · exact W.iret (v := x) hx hb (hr.trans h0) (fin _ rfl) hS.2.2 hd
                  · exact W.zret (v := x) (ty := .boolean) hx hb (hr.trans h0) (by rcases hz (by rw [h0]; rfl) x rfl with rfl | rfl <;> decide +kernel) (fin _ rfl) hS.2.2 hd
                | lreturn =>
                  obtain ⟨x, rfl⟩ := hrk
                  exact W.lret (v := x) hx hb (hr.trans hrt) (fin _ rfl) hS.2.2 hd
                | areturn =>
                  obtain ⟨C, hrt⟩ := hrt
                  rcases hrk with rfl | ⟨x, rfl⟩
                  · exact W.aret (v := .null) hx hb (hr.trans hrt) (Or.inl ⟨C, rfl⟩) (Or.inl rfl) (fin _ rfl) hS.2.2 hd
                  · exact W.aret (v := .ref x) hx hb (hr.trans hrt) (Or.inl ⟨C, rfl⟩) (Or.inr ⟨x, rfl⟩) (fin _ rfl) hS.2.2 hd
                | return_ =>
                  have hrk : rv = none := hrk
                  subst hrk
                  exact W.vret hx hb (hr.trans hrt) (fin _ rfl) hS.2.2 hd
                | _ => exact absurd hrk id
            · rw [if_neg hcap] at h
              cases h
      · rw [if_neg hc] at h
        cases h
end
section
-- ===== PART A: goes FIRST, ahead of the names: the tables' words, and 'selects' of the private methods out of them =====
/-- a private method of a class that the tables say can be made, by its rows of tables_1 -/
def lw_okq (q : MethodName × Nat) : Prop := (q.1.cls ≠ "java/lang/invoke/MethodHandle" ∧ q.1.cls ≠ "java/lang/invoke/VarHandle") ∧ Cond.instantiable q.1.cls q.2 ∈ tables_1 ∧ Cond.privateMethod q.1 ∈ tables_1 ∧ Cond.instanceMethod q.1 ∈ tables_1
theorem lw_p0 : lw_okq (⟨"IceBoats", "rowAt", "(I)LIceBoats$Row;"⟩, 19) := ⟨⟨by decide +kernel, by decide +kernel⟩, List.mem_of_getElem? (i := 17) (by decide +kernel), List.mem_of_getElem? (i := 270) (by decide +kernel), List.mem_of_getElem? (i := 271) (by decide +kernel)⟩
theorem lw_p1 : lw_okq (⟨"IceBoats", "found", "(I)I"⟩, 19) := ⟨⟨by decide +kernel, by decide +kernel⟩, List.mem_of_getElem? (i := 17) (by decide +kernel), List.mem_of_getElem? (i := 274) (by decide +kernel), List.mem_of_getElem? (i := 275) (by decide +kernel)⟩
theorem lw_p2 : lw_okq (⟨"IceBoats", "tellAsked", "(I)I"⟩, 19) := ⟨⟨by decide +kernel, by decide +kernel⟩, List.mem_of_getElem? (i := 17) (by decide +kernel), List.mem_of_getElem? (i := 294) (by decide +kernel), List.mem_of_getElem? (i := 295) (by decide +kernel)⟩
theorem lw_p3 : lw_okq (⟨"IceBoats", "textAt", "(I)LIceBoats$Row;"⟩, 19) := ⟨⟨by decide +kernel, by decide +kernel⟩, List.mem_of_getElem? (i := 17) (by decide +kernel), List.mem_of_getElem? (i := 317) (by decide +kernel), List.mem_of_getElem? (i := 318) (by decide +kernel)⟩
theorem lw_p4 : lw_okq (⟨"IceBoats", "boatLiesIn", "(I)Z"⟩, 19) := ⟨⟨by decide +kernel, by decide +kernel⟩, List.mem_of_getElem? (i := 17) (by decide +kernel), List.mem_of_getElem? (i := 332) (by decide +kernel), List.mem_of_getElem? (i := 333) (by decide +kernel)⟩
theorem lw_p5 : lw_okq (⟨"IceBoats", "boatAt", "(I)LIceBoats$Boat;"⟩, 19) := ⟨⟨by decide +kernel, by decide +kernel⟩, List.mem_of_getElem? (i := 17) (by decide +kernel), List.mem_of_getElem? (i := 386) (by decide +kernel), List.mem_of_getElem? (i := 387) (by decide +kernel)⟩
theorem lw_p6 : lw_okq (⟨"IceBoats", "tellOfBoat", "(ILIceBoats$Boat;I)I"⟩, 19) := ⟨⟨by decide +kernel, by decide +kernel⟩, List.mem_of_getElem? (i := 17) (by decide +kernel), List.mem_of_getElem? (i := 401) (by decide +kernel), List.mem_of_getElem? (i := 402) (by decide +kernel)⟩
theorem lw_p7 : lw_okq (⟨"IceBoats", "looksHeldBy", "(I)I"⟩, 19) := ⟨⟨by decide +kernel, by decide +kernel⟩, List.mem_of_getElem? (i := 17) (by decide +kernel), List.mem_of_getElem? (i := 411) (by decide +kernel), List.mem_of_getElem? (i := 412) (by decide +kernel)⟩
theorem lw_p8 : lw_okq (⟨"IceBoats", "looksOnlyHeldBy", "(I)I"⟩, 19) := ⟨⟨by decide +kernel, by decide +kernel⟩, List.mem_of_getElem? (i := 17) (by decide +kernel), List.mem_of_getElem? (i := 422) (by decide +kernel), List.mem_of_getElem? (i := 423) (by decide +kernel)⟩
theorem lw_p9 : lw_okq (⟨"IceBoats", "tellSet", "(J)I"⟩, 19) := ⟨⟨by decide +kernel, by decide +kernel⟩, List.mem_of_getElem? (i := 17) (by decide +kernel), List.mem_of_getElem? (i := 430) (by decide +kernel), List.mem_of_getElem? (i := 431) (by decide +kernel)⟩
theorem lw_p10 : lw_okq (⟨"IceBoats", "moveBoat", "(LIceBoats$Boat;)V"⟩, 19) := ⟨⟨by decide +kernel, by decide +kernel⟩, List.mem_of_getElem? (i := 17) (by decide +kernel), List.mem_of_getElem? (i := 446) (by decide +kernel), List.mem_of_getElem? (i := 447) (by decide +kernel)⟩
theorem lw_p11 : lw_okq (⟨"IceBoats", "lotCarries", "()Z"⟩, 19) := ⟨⟨by decide +kernel, by decide +kernel⟩, List.mem_of_getElem? (i := 17) (by decide +kernel), List.mem_of_getElem? (i := 458) (by decide +kernel), List.mem_of_getElem? (i := 459) (by decide +kernel)⟩
theorem lw_p12 : lw_okq (⟨"IceBoats", "hearWhatComes", "(I)I"⟩, 19) := ⟨⟨by decide +kernel, by decide +kernel⟩, List.mem_of_getElem? (i := 17) (by decide +kernel), List.mem_of_getElem? (i := 473) (by decide +kernel), List.mem_of_getElem? (i := 474) (by decide +kernel)⟩
theorem lw_p13 : lw_okq (⟨"IceBoats", "loseMetWords", "(I)V"⟩, 19) := ⟨⟨by decide +kernel, by decide +kernel⟩, List.mem_of_getElem? (i := 17) (by decide +kernel), List.mem_of_getElem? (i := 481) (by decide +kernel), List.mem_of_getElem? (i := 482) (by decide +kernel)⟩
theorem lw_p14 : lw_okq (⟨"IceBoats", "takeIn", "(LIceBoats$Word;ILIceBoats$Boat;)V"⟩, 19) := ⟨⟨by decide +kernel, by decide +kernel⟩, List.mem_of_getElem? (i := 17) (by decide +kernel), List.mem_of_getElem? (i := 485) (by decide +kernel), List.mem_of_getElem? (i := 486) (by decide +kernel)⟩
theorem lw_p15 : lw_okq (⟨"IceBoats", "holdLook", "(II)V"⟩, 19) := ⟨⟨by decide +kernel, by decide +kernel⟩, List.mem_of_getElem? (i := 17) (by decide +kernel), List.mem_of_getElem? (i := 511) (by decide +kernel), List.mem_of_getElem? (i := 512) (by decide +kernel)⟩
def lw_privs_1 : List (MethodName × Nat) := [(⟨"IceBoats", "rowAt", "(I)LIceBoats$Row;"⟩, 19), (⟨"IceBoats", "found", "(I)I"⟩, 19), (⟨"IceBoats", "tellAsked", "(I)I"⟩, 19), (⟨"IceBoats", "textAt", "(I)LIceBoats$Row;"⟩, 19), (⟨"IceBoats", "boatLiesIn", "(I)Z"⟩, 19), (⟨"IceBoats", "boatAt", "(I)LIceBoats$Boat;"⟩, 19), (⟨"IceBoats", "tellOfBoat", "(ILIceBoats$Boat;I)I"⟩, 19), (⟨"IceBoats", "looksHeldBy", "(I)I"⟩, 19), (⟨"IceBoats", "looksOnlyHeldBy", "(I)I"⟩, 19), (⟨"IceBoats", "tellSet", "(J)I"⟩, 19), (⟨"IceBoats", "moveBoat", "(LIceBoats$Boat;)V"⟩, 19), (⟨"IceBoats", "lotCarries", "()Z"⟩, 19), (⟨"IceBoats", "hearWhatComes", "(I)I"⟩, 19), (⟨"IceBoats", "loseMetWords", "(I)V"⟩, 19), (⟨"IceBoats", "takeIn", "(LIceBoats$Word;ILIceBoats$Boat;)V"⟩, 19), (⟨"IceBoats", "holdLook", "(II)V"⟩, 19)]
theorem lw_r1 : ∀ q ∈ lw_privs_1, lw_okq q := List.forall_mem_cons.mpr ⟨lw_p0, List.forall_mem_cons.mpr ⟨lw_p1, List.forall_mem_cons.mpr ⟨lw_p2, List.forall_mem_cons.mpr ⟨lw_p3, List.forall_mem_cons.mpr ⟨lw_p4, List.forall_mem_cons.mpr ⟨lw_p5, List.forall_mem_cons.mpr ⟨lw_p6, List.forall_mem_cons.mpr ⟨lw_p7, List.forall_mem_cons.mpr ⟨lw_p8, List.forall_mem_cons.mpr ⟨lw_p9, List.forall_mem_cons.mpr ⟨lw_p10, List.forall_mem_cons.mpr ⟨lw_p11, List.forall_mem_cons.mpr ⟨lw_p12, List.forall_mem_cons.mpr ⟨lw_p13, List.forall_mem_cons.mpr ⟨lw_p14, List.forall_mem_cons.mpr ⟨lw_p15, fun _ h => absurd h List.not_mem_nil⟩⟩⟩⟩⟩⟩⟩⟩⟩⟩⟩⟩⟩⟩⟩⟩
theorem lw_p16 : lw_okq (⟨"IceBoats", "lookAt", "(I)LIceBoats$Look;"⟩, 19) := ⟨⟨by decide +kernel, by decide +kernel⟩, List.mem_of_getElem? (i := 17) (by decide +kernel), List.mem_of_getElem? (i := 515) (by decide +kernel), List.mem_of_getElem? (i := 516) (by decide +kernel)⟩
theorem lw_p17 : lw_okq (⟨"IceBoats", "isOpenCell", "(I)Z"⟩, 19) := ⟨⟨by decide +kernel, by decide +kernel⟩, List.mem_of_getElem? (i := 17) (by decide +kernel), List.mem_of_getElem? (i := 587) (by decide +kernel), List.mem_of_getElem? (i := 588) (by decide +kernel)⟩
theorem lw_p18 : lw_okq (⟨"IceBoats", "fitsWord", "(II)Z"⟩, 19) := ⟨⟨by decide +kernel, by decide +kernel⟩, List.mem_of_getElem? (i := 17) (by decide +kernel), List.mem_of_getElem? (i := 599) (by decide +kernel), List.mem_of_getElem? (i := 600) (by decide +kernel)⟩
theorem lw_p19 : lw_okq (⟨"IceBoats", "holdsLook", "(II)Z"⟩, 19) := ⟨⟨by decide +kernel, by decide +kernel⟩, List.mem_of_getElem? (i := 17) (by decide +kernel), List.mem_of_getElem? (i := 603) (by decide +kernel), List.mem_of_getElem? (i := 604) (by decide +kernel)⟩
theorem lw_p20 : lw_okq (⟨"IceBoats", "sendWord", "(LIceBoats$Word;I)V"⟩, 19) := ⟨⟨by decide +kernel, by decide +kernel⟩, List.mem_of_getElem? (i := 17) (by decide +kernel), List.mem_of_getElem? (i := 641) (by decide +kernel), List.mem_of_getElem? (i := 642) (by decide +kernel)⟩
theorem lw_p21 : lw_okq (⟨"IceBoats", "wordAt", "(I)LIceBoats$Word;"⟩, 19) := ⟨⟨by decide +kernel, by decide +kernel⟩, List.mem_of_getElem? (i := 17) (by decide +kernel), List.mem_of_getElem? (i := 652) (by decide +kernel), List.mem_of_getElem? (i := 653) (by decide +kernel)⟩
theorem lw_p22 : lw_okq (⟨"IceBoats", "iceOfLook", "(I)I"⟩, 19) := ⟨⟨by decide +kernel, by decide +kernel⟩, List.mem_of_getElem? (i := 17) (by decide +kernel), List.mem_of_getElem? (i := 666) (by decide +kernel), List.mem_of_getElem? (i := 667) (by decide +kernel)⟩
theorem lw_p23 : lw_okq (⟨"IceBoats", "knownOf", "(LIceBoats$Word;II)I"⟩, 19) := ⟨⟨by decide +kernel, by decide +kernel⟩, List.mem_of_getElem? (i := 17) (by decide +kernel), List.mem_of_getElem? (i := 690) (by decide +kernel), List.mem_of_getElem? (i := 691) (by decide +kernel)⟩
theorem lw_p24 : lw_okq (⟨"IceBoats", "firstHeardFrom", "(III)I"⟩, 19) := ⟨⟨by decide +kernel, by decide +kernel⟩, List.mem_of_getElem? (i := 17) (by decide +kernel), List.mem_of_getElem? (i := 694) (by decide +kernel), List.mem_of_getElem? (i := 695) (by decide +kernel)⟩
theorem lw_p25 : lw_okq (⟨"IceBoats", "knownOfKnown", "(LIceBoats$Word;III)I"⟩, 19) := ⟨⟨by decide +kernel, by decide +kernel⟩, List.mem_of_getElem? (i := 17) (by decide +kernel), List.mem_of_getElem? (i := 698) (by decide +kernel), List.mem_of_getElem? (i := 699) (by decide +kernel)⟩
theorem lw_p26 : lw_okq (⟨"IceBoats", "knownOfAll", "(LIceBoats$Word;III)I"⟩, 19) := ⟨⟨by decide +kernel, by decide +kernel⟩, List.mem_of_getElem? (i := 17) (by decide +kernel), List.mem_of_getElem? (i := 706) (by decide +kernel), List.mem_of_getElem? (i := 707) (by decide +kernel)⟩
theorem lw_p27 : lw_okq (⟨"IceBoats", "isDueNow", "(I)Z"⟩, 19) := ⟨⟨by decide +kernel, by decide +kernel⟩, List.mem_of_getElem? (i := 17) (by decide +kernel), List.mem_of_getElem? (i := 744) (by decide +kernel), List.mem_of_getElem? (i := 745) (by decide +kernel)⟩
theorem lw_p28 : lw_okq (⟨"IceBoats", "faultOfPlanRows", "(I)I"⟩, 19) := ⟨⟨by decide +kernel, by decide +kernel⟩, List.mem_of_getElem? (i := 17) (by decide +kernel), List.mem_of_getElem? (i := 772) (by decide +kernel), List.mem_of_getElem? (i := 773) (by decide +kernel)⟩
theorem lw_p29 : lw_okq (⟨"IceBoats", "offerRows", "(III)V"⟩, 19) := ⟨⟨by decide +kernel, by decide +kernel⟩, List.mem_of_getElem? (i := 17) (by decide +kernel), List.mem_of_getElem? (i := 786) (by decide +kernel), List.mem_of_getElem? (i := 787) (by decide +kernel)⟩
theorem lw_p30 : lw_okq (⟨"IceBoats", "tellShare", "(JJ)V"⟩, 19) := ⟨⟨by decide +kernel, by decide +kernel⟩, List.mem_of_getElem? (i := 17) (by decide +kernel), List.mem_of_getElem? (i := 840) (by decide +kernel), List.mem_of_getElem? (i := 841) (by decide +kernel)⟩
theorem lw_p31 : lw_okq (⟨"IceBoats", "keepWhatWasSeen", "(LIceBoats$Row;I)V"⟩, 19) := ⟨⟨by decide +kernel, by decide +kernel⟩, List.mem_of_getElem? (i := 17) (by decide +kernel), List.mem_of_getElem? (i := 855) (by decide +kernel), List.mem_of_getElem? (i := 856) (by decide +kernel)⟩
def lw_privs_2 : List (MethodName × Nat) := [(⟨"IceBoats", "lookAt", "(I)LIceBoats$Look;"⟩, 19), (⟨"IceBoats", "isOpenCell", "(I)Z"⟩, 19), (⟨"IceBoats", "fitsWord", "(II)Z"⟩, 19), (⟨"IceBoats", "holdsLook", "(II)Z"⟩, 19), (⟨"IceBoats", "sendWord", "(LIceBoats$Word;I)V"⟩, 19), (⟨"IceBoats", "wordAt", "(I)LIceBoats$Word;"⟩, 19), (⟨"IceBoats", "iceOfLook", "(I)I"⟩, 19), (⟨"IceBoats", "knownOf", "(LIceBoats$Word;II)I"⟩, 19), (⟨"IceBoats", "firstHeardFrom", "(III)I"⟩, 19), (⟨"IceBoats", "knownOfKnown", "(LIceBoats$Word;III)I"⟩, 19), (⟨"IceBoats", "knownOfAll", "(LIceBoats$Word;III)I"⟩, 19), (⟨"IceBoats", "isDueNow", "(I)Z"⟩, 19), (⟨"IceBoats", "faultOfPlanRows", "(I)I"⟩, 19), (⟨"IceBoats", "offerRows", "(III)V"⟩, 19), (⟨"IceBoats", "tellShare", "(JJ)V"⟩, 19), (⟨"IceBoats", "keepWhatWasSeen", "(LIceBoats$Row;I)V"⟩, 19)]
theorem lw_r2 : ∀ q ∈ lw_privs_2, lw_okq q := List.forall_mem_cons.mpr ⟨lw_p16, List.forall_mem_cons.mpr ⟨lw_p17, List.forall_mem_cons.mpr ⟨lw_p18, List.forall_mem_cons.mpr ⟨lw_p19, List.forall_mem_cons.mpr ⟨lw_p20, List.forall_mem_cons.mpr ⟨lw_p21, List.forall_mem_cons.mpr ⟨lw_p22, List.forall_mem_cons.mpr ⟨lw_p23, List.forall_mem_cons.mpr ⟨lw_p24, List.forall_mem_cons.mpr ⟨lw_p25, List.forall_mem_cons.mpr ⟨lw_p26, List.forall_mem_cons.mpr ⟨lw_p27, List.forall_mem_cons.mpr ⟨lw_p28, List.forall_mem_cons.mpr ⟨lw_p29, List.forall_mem_cons.mpr ⟨lw_p30, List.forall_mem_cons.mpr ⟨lw_p31, fun _ h => absurd h List.not_mem_nil⟩⟩⟩⟩⟩⟩⟩⟩⟩⟩⟩⟩⟩⟩⟩⟩
theorem lw_p32 : lw_okq (⟨"IceBoats", "ableBoats", "()I"⟩, 19) := ⟨⟨by decide +kernel, by decide +kernel⟩, List.mem_of_getElem? (i := 17) (by decide +kernel), List.mem_of_getElem? (i := 891) (by decide +kernel), List.mem_of_getElem? (i := 892) (by decide +kernel)⟩
theorem lw_p33 : lw_okq (⟨"IceBoats", "boatsOfKind", "(I)I"⟩, 19) := ⟨⟨by decide +kernel, by decide +kernel⟩, List.mem_of_getElem? (i := 17) (by decide +kernel), List.mem_of_getElem? (i := 895) (by decide +kernel), List.mem_of_getElem? (i := 896) (by decide +kernel)⟩
theorem lw_p34 : lw_okq (⟨"IceBoats", "digestBoats", "(J)J"⟩, 19) := ⟨⟨by decide +kernel, by decide +kernel⟩, List.mem_of_getElem? (i := 17) (by decide +kernel), List.mem_of_getElem? (i := 917) (by decide +kernel), List.mem_of_getElem? (i := 918) (by decide +kernel)⟩
theorem lw_p35 : lw_okq (⟨"IceBoats", "digestWords", "(J)J"⟩, 19) := ⟨⟨by decide +kernel, by decide +kernel⟩, List.mem_of_getElem? (i := 17) (by decide +kernel), List.mem_of_getElem? (i := 921) (by decide +kernel), List.mem_of_getElem? (i := 922) (by decide +kernel)⟩
theorem lw_p36 : lw_okq (⟨"IceBoats", "digestLooks", "(J)J"⟩, 19) := ⟨⟨by decide +kernel, by decide +kernel⟩, List.mem_of_getElem? (i := 17) (by decide +kernel), List.mem_of_getElem? (i := 925) (by decide +kernel), List.mem_of_getElem? (i := 926) (by decide +kernel)⟩
theorem lw_p37 : lw_okq (⟨"IceBoatsModel", "meets", "(I)I"⟩, 51) := ⟨⟨by decide +kernel, by decide +kernel⟩, List.mem_of_getElem? (i := 932) (by decide +kernel), List.mem_of_getElem? (i := 1102) (by decide +kernel), List.mem_of_getElem? (i := 1103) (by decide +kernel)⟩
theorem lw_p38 : lw_okq (⟨"IceBoatsModel", "askedRow", "(I)I"⟩, 51) := ⟨⟨by decide +kernel, by decide +kernel⟩, List.mem_of_getElem? (i := 932) (by decide +kernel), List.mem_of_getElem? (i := 1110) (by decide +kernel), List.mem_of_getElem? (i := 1111) (by decide +kernel)⟩
theorem lw_p39 : lw_okq (⟨"IceBoatsModel", "rowAt", "(II)I"⟩, 51) := ⟨⟨by decide +kernel, by decide +kernel⟩, List.mem_of_getElem? (i := 932) (by decide +kernel), List.mem_of_getElem? (i := 1114) (by decide +kernel), List.mem_of_getElem? (i := 1115) (by decide +kernel)⟩
theorem lw_p40 : lw_okq (⟨"IceBoatsModel", "ask", "(II)I"⟩, 51) := ⟨⟨by decide +kernel, by decide +kernel⟩, List.mem_of_getElem? (i := 932) (by decide +kernel), List.mem_of_getElem? (i := 1130) (by decide +kernel), List.mem_of_getElem? (i := 1131) (by decide +kernel)⟩
theorem lw_p41 : lw_okq (⟨"IceBoatsModel", "askedText", "(I)I"⟩, 51) := ⟨⟨by decide +kernel, by decide +kernel⟩, List.mem_of_getElem? (i := 932) (by decide +kernel), List.mem_of_getElem? (i := 1145) (by decide +kernel), List.mem_of_getElem? (i := 1146) (by decide +kernel)⟩
theorem lw_p42 : lw_okq (⟨"IceBoatsModel", "isTaken", "(I)Z"⟩, 51) := ⟨⟨by decide +kernel, by decide +kernel⟩, List.mem_of_getElem? (i := 932) (by decide +kernel), List.mem_of_getElem? (i := 1156) (by decide +kernel), List.mem_of_getElem? (i := 1157) (by decide +kernel)⟩
theorem lw_p43 : lw_okq (⟨"IceBoatsModel", "seaTells", "(II)I"⟩, 51) := ⟨⟨by decide +kernel, by decide +kernel⟩, List.mem_of_getElem? (i := 932) (by decide +kernel), List.mem_of_getElem? (i := 1174) (by decide +kernel), List.mem_of_getElem? (i := 1175) (by decide +kernel)⟩
theorem lw_p44 : lw_okq (⟨"IceBoatsModel", "setTimes", "(I)V"⟩, 51) := ⟨⟨by decide +kernel, by decide +kernel⟩, List.mem_of_getElem? (i := 932) (by decide +kernel), List.mem_of_getElem? (i := 1194) (by decide +kernel), List.mem_of_getElem? (i := 1195) (by decide +kernel)⟩
theorem lw_p45 : lw_okq (⟨"IceBoatsModel", "leads", "(II)I"⟩, 51) := ⟨⟨by decide +kernel, by decide +kernel⟩, List.mem_of_getElem? (i := 932) (by decide +kernel), List.mem_of_getElem? (i := 1199) (by decide +kernel), List.mem_of_getElem? (i := 1200) (by decide +kernel)⟩
theorem lw_p46 : lw_okq (⟨"IceBoatsModel", "boatTells", "(II)I"⟩, 51) := ⟨⟨by decide +kernel, by decide +kernel⟩, List.mem_of_getElem? (i := 932) (by decide +kernel), List.mem_of_getElem? (i := 1214) (by decide +kernel), List.mem_of_getElem? (i := 1215) (by decide +kernel)⟩
theorem lw_p47 : lw_okq (⟨"IceBoatsModel", "heldBy", "(I)I"⟩, 51) := ⟨⟨by decide +kernel, by decide +kernel⟩, List.mem_of_getElem? (i := 932) (by decide +kernel), List.mem_of_getElem? (i := 1224) (by decide +kernel), List.mem_of_getElem? (i := 1225) (by decide +kernel)⟩
def lw_privs_3 : List (MethodName × Nat) := [(⟨"IceBoats", "ableBoats", "()I"⟩, 19), (⟨"IceBoats", "boatsOfKind", "(I)I"⟩, 19), (⟨"IceBoats", "digestBoats", "(J)J"⟩, 19), (⟨"IceBoats", "digestWords", "(J)J"⟩, 19), (⟨"IceBoats", "digestLooks", "(J)J"⟩, 19), (⟨"IceBoatsModel", "meets", "(I)I"⟩, 51), (⟨"IceBoatsModel", "askedRow", "(I)I"⟩, 51), (⟨"IceBoatsModel", "rowAt", "(II)I"⟩, 51), (⟨"IceBoatsModel", "ask", "(II)I"⟩, 51), (⟨"IceBoatsModel", "askedText", "(I)I"⟩, 51), (⟨"IceBoatsModel", "isTaken", "(I)Z"⟩, 51), (⟨"IceBoatsModel", "seaTells", "(II)I"⟩, 51), (⟨"IceBoatsModel", "setTimes", "(I)V"⟩, 51), (⟨"IceBoatsModel", "leads", "(II)I"⟩, 51), (⟨"IceBoatsModel", "boatTells", "(II)I"⟩, 51), (⟨"IceBoatsModel", "heldBy", "(I)I"⟩, 51)]
theorem lw_r3 : ∀ q ∈ lw_privs_3, lw_okq q := List.forall_mem_cons.mpr ⟨lw_p32, List.forall_mem_cons.mpr ⟨lw_p33, List.forall_mem_cons.mpr ⟨lw_p34, List.forall_mem_cons.mpr ⟨lw_p35, List.forall_mem_cons.mpr ⟨lw_p36, List.forall_mem_cons.mpr ⟨lw_p37, List.forall_mem_cons.mpr ⟨lw_p38, List.forall_mem_cons.mpr ⟨lw_p39, List.forall_mem_cons.mpr ⟨lw_p40, List.forall_mem_cons.mpr ⟨lw_p41, List.forall_mem_cons.mpr ⟨lw_p42, List.forall_mem_cons.mpr ⟨lw_p43, List.forall_mem_cons.mpr ⟨lw_p44, List.forall_mem_cons.mpr ⟨lw_p45, List.forall_mem_cons.mpr ⟨lw_p46, List.forall_mem_cons.mpr ⟨lw_p47, fun _ h => absurd h List.not_mem_nil⟩⟩⟩⟩⟩⟩⟩⟩⟩⟩⟩⟩⟩⟩⟩⟩
theorem lw_p48 : lw_okq (⟨"IceBoatsModel", "isAble", "(I)Z"⟩, 51) := ⟨⟨by decide +kernel, by decide +kernel⟩, List.mem_of_getElem? (i := 932) (by decide +kernel), List.mem_of_getElem? (i := 1240) (by decide +kernel), List.mem_of_getElem? (i := 1241) (by decide +kernel)⟩
theorem lw_p49 : lw_okq (⟨"IceBoatsModel", "moves", "(I)V"⟩, 51) := ⟨⟨by decide +kernel, by decide +kernel⟩, List.mem_of_getElem? (i := 932) (by decide +kernel), List.mem_of_getElem? (i := 1248) (by decide +kernel), List.mem_of_getElem? (i := 1249) (by decide +kernel)⟩
theorem lw_p50 : lw_okq (⟨"IceBoatsModel", "isCarried", "()Z"⟩, 51) := ⟨⟨by decide +kernel, by decide +kernel⟩, List.mem_of_getElem? (i := 932) (by decide +kernel), List.mem_of_getElem? (i := 1252) (by decide +kernel), List.mem_of_getElem? (i := 1253) (by decide +kernel)⟩
theorem lw_p51 : lw_okq (⟨"IceBoatsModel", "hears", "(I)I"⟩, 51) := ⟨⟨by decide +kernel, by decide +kernel⟩, List.mem_of_getElem? (i := 932) (by decide +kernel), List.mem_of_getElem? (i := 1257) (by decide +kernel), List.mem_of_getElem? (i := 1258) (by decide +kernel)⟩
theorem lw_p52 : lw_okq (⟨"IceBoatsModel", "takes", "(II)V"⟩, 51) := ⟨⟨by decide +kernel, by decide +kernel⟩, List.mem_of_getElem? (i := 932) (by decide +kernel), List.mem_of_getElem? (i := 1261) (by decide +kernel), List.mem_of_getElem? (i := 1262) (by decide +kernel)⟩
theorem lw_p53 : lw_okq (⟨"IceBoatsModel", "keepsFar", "(II)V"⟩, 51) := ⟨⟨by decide +kernel, by decide +kernel⟩, List.mem_of_getElem? (i := 932) (by decide +kernel), List.mem_of_getElem? (i := 1265) (by decide +kernel), List.mem_of_getElem? (i := 1266) (by decide +kernel)⟩
theorem lw_p54 : lw_okq (⟨"IceBoatsModel", "nearer", "(II)I"⟩, 51) := ⟨⟨by decide +kernel, by decide +kernel⟩, List.mem_of_getElem? (i := 932) (by decide +kernel), List.mem_of_getElem? (i := 1269) (by decide +kernel), List.mem_of_getElem? (i := 1270) (by decide +kernel)⟩
theorem lw_p55 : lw_okq (⟨"IceBoatsModel", "isLook", "(I)Z"⟩, 51) := ⟨⟨by decide +kernel, by decide +kernel⟩, List.mem_of_getElem? (i := 932) (by decide +kernel), List.mem_of_getElem? (i := 1287) (by decide +kernel), List.mem_of_getElem? (i := 1288) (by decide +kernel)⟩
theorem lw_p56 : lw_okq (⟨"IceBoatsModel", "lookTells", "(II)I"⟩, 51) := ⟨⟨by decide +kernel, by decide +kernel⟩, List.mem_of_getElem? (i := 932) (by decide +kernel), List.mem_of_getElem? (i := 1291) (by decide +kernel), List.mem_of_getElem? (i := 1292) (by decide +kernel)⟩
theorem lw_p57 : lw_okq (⟨"IceBoatsModel", "isSaid", "(II)Z"⟩, 51) := ⟨⟨by decide +kernel, by decide +kernel⟩, List.mem_of_getElem? (i := 932) (by decide +kernel), List.mem_of_getElem? (i := 1307) (by decide +kernel), List.mem_of_getElem? (i := 1308) (by decide +kernel)⟩
theorem lw_p58 : lw_okq (⟨"IceBoatsModel", "isWord", "(I)Z"⟩, 51) := ⟨⟨by decide +kernel, by decide +kernel⟩, List.mem_of_getElem? (i := 932) (by decide +kernel), List.mem_of_getElem? (i := 1315) (by decide +kernel), List.mem_of_getElem? (i := 1316) (by decide +kernel)⟩
theorem lw_p59 : lw_okq (⟨"IceBoatsModel", "wordTells", "(II)I"⟩, 51) := ⟨⟨by decide +kernel, by decide +kernel⟩, List.mem_of_getElem? (i := 932) (by decide +kernel), List.mem_of_getElem? (i := 1319) (by decide +kernel), List.mem_of_getElem? (i := 1320) (by decide +kernel)⟩
theorem lw_p60 : lw_okq (⟨"IceBoatsModel", "knowsOf", "(IIII)I"⟩, 51) := ⟨⟨by decide +kernel, by decide +kernel⟩, List.mem_of_getElem? (i := 932) (by decide +kernel), List.mem_of_getElem? (i := 1335) (by decide +kernel), List.mem_of_getElem? (i := 1336) (by decide +kernel)⟩
theorem lw_p61 : lw_okq (⟨"IceBoatsModel", "knowsAt", "(II)I"⟩, 51) := ⟨⟨by decide +kernel, by decide +kernel⟩, List.mem_of_getElem? (i := 932) (by decide +kernel), List.mem_of_getElem? (i := 1339) (by decide +kernel), List.mem_of_getElem? (i := 1340) (by decide +kernel)⟩
theorem lw_p62 : lw_okq (⟨"IceBoatsModel", "learns", "(III)I"⟩, 51) := ⟨⟨by decide +kernel, by decide +kernel⟩, List.mem_of_getElem? (i := 932) (by decide +kernel), List.mem_of_getElem? (i := 1343) (by decide +kernel), List.mem_of_getElem? (i := 1344) (by decide +kernel)⟩
theorem lw_p63 : lw_okq (⟨"IceBoatsModel", "reads", "(I)I"⟩, 51) := ⟨⟨by decide +kernel, by decide +kernel⟩, List.mem_of_getElem? (i := 932) (by decide +kernel), List.mem_of_getElem? (i := 1355) (by decide +kernel), List.mem_of_getElem? (i := 1356) (by decide +kernel)⟩
def lw_privs_4 : List (MethodName × Nat) := [(⟨"IceBoatsModel", "isAble", "(I)Z"⟩, 51), (⟨"IceBoatsModel", "moves", "(I)V"⟩, 51), (⟨"IceBoatsModel", "isCarried", "()Z"⟩, 51), (⟨"IceBoatsModel", "hears", "(I)I"⟩, 51), (⟨"IceBoatsModel", "takes", "(II)V"⟩, 51), (⟨"IceBoatsModel", "keepsFar", "(II)V"⟩, 51), (⟨"IceBoatsModel", "nearer", "(II)I"⟩, 51), (⟨"IceBoatsModel", "isLook", "(I)Z"⟩, 51), (⟨"IceBoatsModel", "lookTells", "(II)I"⟩, 51), (⟨"IceBoatsModel", "isSaid", "(II)Z"⟩, 51), (⟨"IceBoatsModel", "isWord", "(I)Z"⟩, 51), (⟨"IceBoatsModel", "wordTells", "(II)I"⟩, 51), (⟨"IceBoatsModel", "knowsOf", "(IIII)I"⟩, 51), (⟨"IceBoatsModel", "knowsAt", "(II)I"⟩, 51), (⟨"IceBoatsModel", "learns", "(III)I"⟩, 51), (⟨"IceBoatsModel", "reads", "(I)I"⟩, 51)]
theorem lw_r4 : ∀ q ∈ lw_privs_4, lw_okq q := List.forall_mem_cons.mpr ⟨lw_p48, List.forall_mem_cons.mpr ⟨lw_p49, List.forall_mem_cons.mpr ⟨lw_p50, List.forall_mem_cons.mpr ⟨lw_p51, List.forall_mem_cons.mpr ⟨lw_p52, List.forall_mem_cons.mpr ⟨lw_p53, List.forall_mem_cons.mpr ⟨lw_p54, List.forall_mem_cons.mpr ⟨lw_p55, List.forall_mem_cons.mpr ⟨lw_p56, List.forall_mem_cons.mpr ⟨lw_p57, List.forall_mem_cons.mpr ⟨lw_p58, List.forall_mem_cons.mpr ⟨lw_p59, List.forall_mem_cons.mpr ⟨lw_p60, List.forall_mem_cons.mpr ⟨lw_p61, List.forall_mem_cons.mpr ⟨lw_p62, List.forall_mem_cons.mpr ⟨lw_p63, fun _ h => absurd h List.not_mem_nil⟩⟩⟩⟩⟩⟩⟩⟩⟩⟩⟩⟩⟩⟩⟩⟩
theorem lw_p64 : lw_okq (⟨"IceBoatsModel", "isMap", "(I)Z"⟩, 51) := ⟨⟨by decide +kernel, by decide +kernel⟩, List.mem_of_getElem? (i := 932) (by decide +kernel), List.mem_of_getElem? (i := 1378) (by decide +kernel), List.mem_of_getElem? (i := 1379) (by decide +kernel)⟩
theorem lw_p65 : lw_okq (⟨"IceBoatsModel", "agrees", "(IIII)I"⟩, 51) := ⟨⟨by decide +kernel, by decide +kernel⟩, List.mem_of_getElem? (i := 932) (by decide +kernel), List.mem_of_getElem? (i := 1382) (by decide +kernel), List.mem_of_getElem? (i := 1383) (by decide +kernel)⟩
theorem lw_p66 : lw_okq (⟨"IceBoatsModel", "areWays", "(II)Z"⟩, 51) := ⟨⟨by decide +kernel, by decide +kernel⟩, List.mem_of_getElem? (i := 932) (by decide +kernel), List.mem_of_getElem? (i := 1394) (by decide +kernel), List.mem_of_getElem? (i := 1395) (by decide +kernel)⟩
theorem lw_p67 : lw_okq (⟨"IceBoatsModel", "comesBy", "(II)J"⟩, 51) := ⟨⟨by decide +kernel, by decide +kernel⟩, List.mem_of_getElem? (i := 932) (by decide +kernel), List.mem_of_getElem? (i := 1398) (by decide +kernel), List.mem_of_getElem? (i := 1399) (by decide +kernel)⟩
theorem lw_p68 : lw_okq (⟨"IceBoatsModel", "askedWays", "(III)I"⟩, 51) := ⟨⟨by decide +kernel, by decide +kernel⟩, List.mem_of_getElem? (i := 932) (by decide +kernel), List.mem_of_getElem? (i := 1406) (by decide +kernel), List.mem_of_getElem? (i := 1407) (by decide +kernel)⟩
theorem lw_p69 : lw_okq (⟨"IceBoatsModel", "share", "(JJ)I"⟩, 51) := ⟨⟨by decide +kernel, by decide +kernel⟩, List.mem_of_getElem? (i := 932) (by decide +kernel), List.mem_of_getElem? (i := 1412) (by decide +kernel), List.mem_of_getElem? (i := 1413) (by decide +kernel)⟩
theorem lw_p70 : lw_okq (⟨"IceBoatsModel", "isCourse", "(IIII)Z"⟩, 51) := ⟨⟨by decide +kernel, by decide +kernel⟩, List.mem_of_getElem? (i := 932) (by decide +kernel), List.mem_of_getElem? (i := 1420) (by decide +kernel), List.mem_of_getElem? (i := 1421) (by decide +kernel)⟩
theorem lw_p71 : lw_okq (⟨"IceBoatsModel", "counts", "(I)I"⟩, 51) := ⟨⟨by decide +kernel, by decide +kernel⟩, List.mem_of_getElem? (i := 932) (by decide +kernel), List.mem_of_getElem? (i := 1444) (by decide +kernel), List.mem_of_getElem? (i := 1445) (by decide +kernel)⟩
theorem lw_p72 : lw_okq (⟨"IceBoatsModel", "mix", "(J)V"⟩, 51) := ⟨⟨by decide +kernel, by decide +kernel⟩, List.mem_of_getElem? (i := 932) (by decide +kernel), List.mem_of_getElem? (i := 1461) (by decide +kernel), List.mem_of_getElem? (i := 1462) (by decide +kernel)⟩
theorem lw_p73 : lw_okq (⟨"IceBoatsModel", "mixBoats", "()V"⟩, 51) := ⟨⟨by decide +kernel, by decide +kernel⟩, List.mem_of_getElem? (i := 932) (by decide +kernel), List.mem_of_getElem? (i := 1466) (by decide +kernel), List.mem_of_getElem? (i := 1467) (by decide +kernel)⟩
theorem lw_p74 : lw_okq (⟨"IceBoatsModel", "mixWords", "()V"⟩, 51) := ⟨⟨by decide +kernel, by decide +kernel⟩, List.mem_of_getElem? (i := 932) (by decide +kernel), List.mem_of_getElem? (i := 1470) (by decide +kernel), List.mem_of_getElem? (i := 1471) (by decide +kernel)⟩
def lw_privs_5 : List (MethodName × Nat) := [(⟨"IceBoatsModel", "isMap", "(I)Z"⟩, 51), (⟨"IceBoatsModel", "agrees", "(IIII)I"⟩, 51), (⟨"IceBoatsModel", "areWays", "(II)Z"⟩, 51), (⟨"IceBoatsModel", "comesBy", "(II)J"⟩, 51), (⟨"IceBoatsModel", "askedWays", "(III)I"⟩, 51), (⟨"IceBoatsModel", "share", "(JJ)I"⟩, 51), (⟨"IceBoatsModel", "isCourse", "(IIII)Z"⟩, 51), (⟨"IceBoatsModel", "counts", "(I)I"⟩, 51), (⟨"IceBoatsModel", "mix", "(J)V"⟩, 51), (⟨"IceBoatsModel", "mixBoats", "()V"⟩, 51), (⟨"IceBoatsModel", "mixWords", "()V"⟩, 51)]
theorem lw_r5 : ∀ q ∈ lw_privs_5, lw_okq q := List.forall_mem_cons.mpr ⟨lw_p64, List.forall_mem_cons.mpr ⟨lw_p65, List.forall_mem_cons.mpr ⟨lw_p66, List.forall_mem_cons.mpr ⟨lw_p67, List.forall_mem_cons.mpr ⟨lw_p68, List.forall_mem_cons.mpr ⟨lw_p69, List.forall_mem_cons.mpr ⟨lw_p70, List.forall_mem_cons.mpr ⟨lw_p71, List.forall_mem_cons.mpr ⟨lw_p72, List.forall_mem_cons.mpr ⟨lw_p73, List.forall_mem_cons.mpr ⟨lw_p74, fun _ h => absurd h List.not_mem_nil⟩⟩⟩⟩⟩⟩⟩⟩⟩⟩⟩
def lw_privs : List (MethodName × Nat) := lw_privs_1 ++ (lw_privs_2 ++ (lw_privs_3 ++ (lw_privs_4 ++ (lw_privs_5))))
def lw_tbl : List Cond := k2_sels lw_privs ++ tables_1
theorem lw_privs_ok : ∀ q ∈ lw_privs, lw_okq q := by
  show ∀ q ∈ lw_privs_1 ++ (lw_privs_2 ++ (lw_privs_3 ++ (lw_privs_4 ++ (lw_privs_5)))), lw_okq q
  exact List.forall_mem_append.mpr ⟨lw_r1, List.forall_mem_append.mpr ⟨lw_r2, List.forall_mem_append.mpr ⟨lw_r3, List.forall_mem_append.mpr ⟨lw_r4, lw_r5⟩⟩⟩⟩
-- ===== end of PART A; then your names; then what follows =====
/-! THE CLAIM OUT OF ONE WALK OF THE LAW'S BODY. Your part is whole_start (and what it stands on); all else here is the same for every law, but numbers. -/
def R_law : String := "IceBoatsLaw"
def lw_P (b : Addr) (xs : List Int32) (args : Array Value) (s : State) : Prop := args = #[.ref b] ∧ s.IntsAt b xs ∧ xs.length ≤ 6 ∧ (Jvm.Cond.and given_1 narrow_1).before args s = true
def lw_Q (_ : Array Value) (s : State) (o : Outcome) (t : State) : Prop := o = .returned (some (.int 1)) ∧ Framed s o t [] 600000 7302250
def lw_Z (below : List Frame) (a : Array Value) (s : State) : State → Prop := fun t => ∃ o, t.status = .running ∧ Ended t below o ∧ lw_Q a s o t
/-- the law's own end, with 1 on the stack, nothing written that was there before, its room as the claim has it -/
theorem lw_ret {p : Program} {l : Launch} {e : Env} {s : State} {m : MethodId} {below : List Frame} {meth : Method} {c : Code} {b : Nat} (hx : p.tables.exec = Jvm.exec) (hb : c.code = code) (hr : meth.sig.returnType = ret) (hlocks : meth.locks = false) {pc : Nat} {H : Heap} {ls : Array Slot} (hdg : decode code pc = .ok (.ireturn, 1)) : W p l e room_1 s m #[Value.ref b] below meth c H [] 600000 7302250 (lw_Z below #[Value.ref b] s) (F0 m pc ls [.int 1]) := by
  intro T hT X
  obtain ⟨fs, hret, hrun, hended, hW, hframe⟩ := X.leave (v := some (.int 1)) (hlocks := hlocks) (fun h => by rw [hr] at h; cases h)
  have hmeth' : T.vm.method? m = some meth := X.method'
  refine ⟨T.setFrames fs, ?_, .returned (some (.int 1)), hrun, hended, rfl, ⟨_, rfl⟩, hW, hframe⟩
  jvm_step X.here [X.here.top, hx, hb, hdg, hmeth', hr, ret, narrow_b1]
  (try refine ⟨rfl, ?_⟩); (try refine ⟨rfl, ?_⟩)
  first | (intro acts; rw [hret _ acts rfl rfl rfl]) | rw [hret _ _ rfl rfl rfl]
  exact Steps.refl _
/-- what holds at the law's entry: the machine, the code, the tables' words (any of lw_tbl by 'hts w (by decide +kernel)'), the script of L ints xs at the cell b, what the Statement gives of the start (any of its parts by flat_of_before) -/
def lw_At (p : Program) (s : State) (m : MethodId) (meth : Method) (c : Code) (b L : Nat) (xs : Nat → Int32) : Prop :=
  p.tables.exec = Jvm.exec ∧ c.code = code ∧ meth.sig.returnType = ret ∧ c.maxLocals = 4 ∧ s.vm.findClass R_law = some m.cls ∧ (∀ w ∈ lw_tbl, w.before #[Value.ref b] s = true) ∧ va_X b L xs s s.heap ∧ b < s.heap.size ∧ meth.locks = false ∧ (Jvm.Cond.and given_1 narrow_1).before #[Value.ref b] s = true
end
section
/-! ===== names, as printed ===== -/
def RX0 : String := "IceBoats$Boat"
def TX0 : u_T := fun k => match k with
  | 0 => ("IceBoats$Boat", "rules", "[I", true)
  | 1 => ("IceBoats$Boat", "kind", "I", false)
  | 2 => ("IceBoats$Boat", "cell", "I", false)
  | 3 => ("IceBoats$Boat", "power", "I", false)
  | 4 => ("IceBoats$Boat", "could", "J", false)
  | 5 => ("IceBoats$Boat", "way", "I", false)
  | 6 => ("IceBoats$Boat", "lastHeard", "I", false)
  | 7 => ("IceBoats$Boat", "lastSpoke", "I", false)
  | 8 => ("IceBoats$Boat", "since", "I", false)
  | 9 => ("IceBoats$Boat", "looksMade", "I", false)
  | 10 => ("IceBoats$Boat", "wordsSaid", "I", false)
  | _ => ("IceBoats$Boat", "latestLook", "LIceBoats$Look;", false)
def tyX0 : Nat → FieldType := fun k => match k with
  | 0 => .array .int
  | 1 => .int
  | 2 => .int
  | 3 => .int
  | 4 => .long
  | 5 => .int
  | 6 => .int
  | 7 => .int
  | 8 => .int
  | 9 => .int
  | 10 => .int
  | _ => .object "IceBoats$Look"
abbrev wsX00 : List Cond := u_ws RX0 TX0 12
theorem nmX0 : ∀ a, a < 12 → ∀ b, b < 12 → a ≠ b → (TX0 a).2.1 ≠ (TX0 b).2.1 := by decide +kernel
theorem tyX0_ok : ∀ k, k < 12 → parseFieldDescriptor (TX0 k).2.2.1 = some (tyX0 k) := by decide +kernel
abbrev cX0_init : ByteArray := prog_2_method_1_code
def yX0_init : MethodName := ⟨RX0, "<init>", "()V"⟩
abbrev cX0_isAble : ByteArray := prog_2_method_2_code
def yX0_isAble : MethodName := ⟨RX0, "isAble", "()Z"⟩
abbrev cX0_letDown : ByteArray := prog_2_method_3_code
def yX0_letDown : MethodName := ⟨RX0, "letDown", "(IIII)V"⟩
abbrev cX0_keepCould : ByteArray := prog_2_method_4_code
def yX0_keepCould : MethodName := ⟨RX0, "keepCould", "(J)V"⟩
abbrev cX0_failIfDue : ByteArray := prog_2_method_5_code
def yX0_failIfDue : MethodName := ⟨RX0, "failIfDue", "(I)V"⟩
def RX1 : String := "IceBoats$Drift"
def TX1 : u_T := fun k => match k with
  | 0 => ("IceBoats$Drift", "weights", "[I", false)
  | 1 => ("IceBoats$Drift", "oddness", "[I", false)
  | 2 => ("IceBoats$Drift", "nextWeights", "[I", false)
  | _ => ("IceBoats$Drift", "nextOddness", "[I", false)
def tyX1 : Nat → FieldType := fun k => match k with
  | 0 => .array .int
  | 1 => .array .int
  | 2 => .array .int
  | _ => .array .int
abbrev wsX10 : List Cond := u_ws RX1 TX1 4
theorem nmX1 : ∀ a, a < 4 → ∀ b, b < 4 → a ≠ b → (TX1 a).2.1 ≠ (TX1 b).2.1 := by decide +kernel
theorem tyX1_ok : ∀ k, k < 4 → parseFieldDescriptor (TX1 k).2.2.1 = some (tyX1 k) := by decide +kernel
abbrev cX1_init : ByteArray := prog_3_method_1_code
def yX1_init : MethodName := ⟨RX1, "<init>", "()V"⟩
abbrev cX1_startIn : ByteArray := prog_3_method_2_code
def yX1_startIn : MethodName := ⟨RX1, "startIn", "(I)V"⟩
abbrev cX1_follow : ByteArray := prog_3_method_3_code
def yX1_follow : MethodName := ⟨RX1, "follow", "(LIceBoats$Sea;II)V"⟩
abbrev cX1_lead : ByteArray := prog_3_method_4_code
def yX1_lead : MethodName := ⟨RX1, "lead", "(III)V"⟩
abbrev cX1_keepOnly : ByteArray := prog_3_method_5_code
def yX1_keepOnly : MethodName := ⟨RX1, "keepOnly", "(I)V"⟩
abbrev cX1_sumOfWeights : ByteArray := prog_3_method_6_code
def yX1_sumOfWeights : MethodName := ⟨RX1, "sumOfWeights", "()I"⟩
abbrev cX1_leastOddRow : ByteArray := prog_3_method_7_code
def yX1_leastOddRow : MethodName := ⟨RX1, "leastOddRow", "()I"⟩
abbrev cX1_clearNext : ByteArray := prog_3_method_8_code
def yX1_clearNext : MethodName := ⟨RX1, "clearNext", "()V"⟩
abbrev cX1_swapNext : ByteArray := prog_3_method_9_code
def yX1_swapNext : MethodName := ⟨RX1, "swapNext", "()V"⟩
def RX2 : String := "IceBoats$Look"
def TX2 : u_T := fun k => match k with
  | 0 => ("IceBoats$Look", "cell", "I", true)
  | 1 => ("IceBoats$Look", "ice", "I", true)
  | 2 => ("IceBoats$Look", "when", "I", true)
  | _ => ("IceBoats$Look", "holders", "I", false)
def tyX2 : Nat → FieldType := fun k => match k with
  | 0 => .int
  | 1 => .int
  | 2 => .int
  | _ => .int
abbrev wsX20 : List Cond := u_ws RX2 TX2 4
theorem nmX2 : ∀ a, a < 4 → ∀ b, b < 4 → a ≠ b → (TX2 a).2.1 ≠ (TX2 b).2.1 := by decide +kernel
theorem tyX2_ok : ∀ k, k < 4 → parseFieldDescriptor (TX2 k).2.2.1 = some (tyX2 k) := by decide +kernel
abbrev cX2_init : ByteArray := prog_4_method_1_code
def yX2_init : MethodName := ⟨RX2, "<init>", "(IIII)V"⟩
abbrev cX2_tellOf : ByteArray := prog_4_method_2_code
def yX2_tellOf : MethodName := ⟨RX2, "tellOf", "(I)I"⟩
def RX3 : String := "IceBoats$Planner"
def TX3 : u_T := fun k => match k with
  | 0 => ("IceBoats$Planner", "cells", "[J", true)
  | 1 => ("IceBoats$Planner", "offered", "[Z", true)
  | 2 => ("IceBoats$Planner", "most", "I", false)
  | _ => ("IceBoats$Planner", "choice", "I", false)
def tyX3 : Nat → FieldType := fun k => match k with
  | 0 => .array .long
  | 1 => .array .boolean
  | 2 => .int
  | _ => .int
abbrev wsX30 : List Cond := u_ws RX3 TX3 4
theorem nmX3 : ∀ a, a < 4 → ∀ b, b < 4 → a ≠ b → (TX3 a).2.1 ≠ (TX3 b).2.1 := by decide +kernel
theorem tyX3_ok : ∀ k, k < 4 → parseFieldDescriptor (TX3 k).2.2.1 = some (tyX3 k) := by decide +kernel
abbrev cX3_init : ByteArray := prog_5_method_1_code
def yX3_init : MethodName := ⟨RX3, "<init>", "()V"⟩
abbrev cX3_forget : ByteArray := prog_5_method_2_code
def yX3_forget : MethodName := ⟨RX3, "forget", "()V"⟩
abbrev cX3_offer : ByteArray := prog_5_method_3_code
def yX3_offer : MethodName := ⟨RX3, "offer", "(IIJ)V"⟩
abbrev cX3_choose : ByteArray := prog_5_method_4_code
def yX3_choose : MethodName := ⟨RX3, "choose", "()V"⟩
abbrev cX3_weigh : ByteArray := prog_5_method_5_code
def yX3_weigh : MethodName := ⟨RX3, "weigh", "(III)V"⟩
def RX4 : String := "IceBoats$Row"
def TX4 : u_T := fun k => match k with
  | 0 => ("IceBoats$Row", "places", "[I", true)
  | _ => ("IceBoats$Row", "size", "I", false)
def tyX4 : Nat → FieldType := fun k => match k with
  | 0 => .array .int
  | _ => .int
abbrev wsX40 : List Cond := u_ws RX4 TX4 2
theorem nmX4 : ∀ a, a < 2 → ∀ b, b < 2 → a ≠ b → (TX4 a).2.1 ≠ (TX4 b).2.1 := by decide +kernel
theorem tyX4_ok : ∀ k, k < 2 → parseFieldDescriptor (TX4 k).2.2.1 = some (tyX4 k) := by decide +kernel
abbrev cX4_init : ByteArray := prog_6_method_1_code
def yX4_init : MethodName := ⟨RX4, "<init>", "()V"⟩
abbrev cX4_isMissing : ByteArray := prog_6_method_2_code
def yX4_isMissing : MethodName := ⟨RX4, "isMissing", "()Z"⟩
abbrev cX4_holds : ByteArray := prog_6_method_3_code
def yX4_holds : MethodName := ⟨RX4, "holds", "(II)Z"⟩
abbrev cX4_beAnew : ByteArray := prog_6_method_4_code
def yX4_beAnew : MethodName := ⟨RX4, "beAnew", "(II)V"⟩
def RX5 : String := "IceBoats$RuleReader"
def TX5 : u_T := fun k => match k with
  | _ => ("IceBoats$RuleReader", "numbers", "[I", true)
def tyX5 : Nat → FieldType := fun k => match k with
  | _ => .array .int
abbrev wsX50 : List Cond := u_ws RX5 TX5 1
theorem nmX5 : ∀ a, a < 1 → ∀ b, b < 1 → a ≠ b → (TX5 a).2.1 ≠ (TX5 b).2.1 := by decide +kernel
theorem tyX5_ok : ∀ k, k < 1 → parseFieldDescriptor (TX5 k).2.2.1 = some (tyX5 k) := by decide +kernel
abbrev cX5_init : ByteArray := prog_7_method_1_code
def yX5_init : MethodName := ⟨RX5, "<init>", "()V"⟩
abbrev cX5_readRules : ByteArray := prog_7_method_2_code
def yX5_readRules : MethodName := ⟨RX5, "readRules", "(LIceBoats$Row;)I"⟩
abbrev cX5_letterOf : ByteArray := prog_7_method_3_code
def yX5_letterOf : MethodName := ⟨RX5, "letterOf", "(I)I"⟩
abbrev cX5_endOfDigits : ByteArray := prog_7_method_4_code
def yX5_endOfDigits : MethodName := ⟨RX5, "endOfDigits", "(LIceBoats$Row;I)I"⟩
abbrev cX5_numberIn : ByteArray := prog_7_method_5_code
def yX5_numberIn : MethodName := ⟨RX5, "numberIn", "(LIceBoats$Row;II)I"⟩
def RX6 : String := "IceBoats$Sea"
def TX6 : u_T := fun k => match k with
  | 0 => ("IceBoats$Sea", "current", "[I", true)
  | 1 => ("IceBoats$Sea", "warmth", "[I", true)
  | 2 => ("IceBoats$Sea", "ice", "[I", true)
  | 3 => ("IceBoats$Sea", "chart", "[I", true)
  | 4 => ("IceBoats$Sea", "cellsOfWarmth", "[J", true)
  | 5 => ("IceBoats$Sea", "wave", "LIceBoats$Wave;", true)
  | 6 => ("IceBoats$Sea", "rocks", "J", false)
  | _ => ("IceBoats$Sea", "hole", "I", false)
def tyX6 : Nat → FieldType := fun k => match k with
  | 0 => .array .int
  | 1 => .array .int
  | 2 => .array .int
  | 3 => .array .int
  | 4 => .array .long
  | 5 => .object "IceBoats$Wave"
  | 6 => .long
  | _ => .int
abbrev wsX60 : List Cond := u_ws RX6 TX6 8
theorem nmX6 : ∀ a, a < 8 → ∀ b, b < 8 → a ≠ b → (TX6 a).2.1 ≠ (TX6 b).2.1 := by decide +kernel
theorem tyX6_ok : ∀ k, k < 8 → parseFieldDescriptor (TX6 k).2.2.1 = some (tyX6 k) := by decide +kernel
abbrev cX6_init : ByteArray := prog_8_method_1_code
def yX6_init : MethodName := ⟨RX6, "<init>", "()V"⟩
abbrev cX6_isRock : ByteArray := prog_8_method_2_code
def yX6_isRock : MethodName := ⟨RX6, "isRock", "(I)Z"⟩
abbrev cX6_becomeRock : ByteArray := prog_8_method_3_code
def yX6_becomeRock : MethodName := ⟨RX6, "becomeRock", "(IZ)V"⟩
abbrev cX6_becomeWarm : ByteArray := prog_8_method_4_code
def yX6_becomeWarm : MethodName := ⟨RX6, "becomeWarm", "(II)V"⟩
abbrev cX6_tellOf : ByteArray := prog_8_method_5_code
def yX6_tellOf : MethodName := ⟨RX6, "tellOf", "(II)I"⟩
abbrev cX6_leadsTo : ByteArray := prog_8_method_6_code
def yX6_leadsTo : MethodName := ⟨RX6, "leadsTo", "(II)I"⟩
abbrev cX6_carriedFrom : ByteArray := prog_8_method_7_code
def yX6_carriedFrom : MethodName := ⟨RX6, "carriedFrom", "(I)I"⟩
abbrev cX6_couldBehind : ByteArray := prog_8_method_8_code
def yX6_couldBehind : MethodName := ⟨RX6, "couldBehind", "(JI)J"⟩
abbrev cX6_wayNearer : ByteArray := prog_8_method_9_code
def yX6_wayNearer : MethodName := ⟨RX6, "wayNearer", "(II)I"⟩
abbrev cX6_cellsOnTheWay : ByteArray := prog_8_method_10_code
def yX6_cellsOnTheWay : MethodName := ⟨RX6, "cellsOnTheWay", "(ILIceBoats$Row;)J"⟩
abbrev cX6_cellsChartedAs : ByteArray := prog_8_method_11_code
def yX6_cellsChartedAs : MethodName := ⟨RX6, "cellsChartedAs", "(I)J"⟩
abbrev cX6_soundTime : ByteArray := prog_8_method_12_code
def yX6_soundTime : MethodName := ⟨RX6, "soundTime", "(III)I"⟩
abbrev cX6_cellsAtTime : ByteArray := prog_8_method_13_code
def yX6_cellsAtTime : MethodName := ⟨RX6, "cellsAtTime", "(JI)J"⟩
def RX7 : String := "IceBoats$Wave"
def TX7 : u_T := fun k => match k with
  | 0 => ("IceBoats$Wave", "fronts", "[J", true)
  | _ => ("IceBoats$Wave", "reached", "J", false)
def tyX7 : Nat → FieldType := fun k => match k with
  | 0 => .array .long
  | _ => .long
abbrev wsX70 : List Cond := u_ws RX7 TX7 2
theorem nmX7 : ∀ a, a < 2 → ∀ b, b < 2 → a ≠ b → (TX7 a).2.1 ≠ (TX7 b).2.1 := by decide +kernel
theorem tyX7_ok : ∀ k, k < 2 → parseFieldDescriptor (TX7 k).2.2.1 = some (tyX7 k) := by decide +kernel
abbrev cX7_init : ByteArray := prog_9_method_1_code
def yX7_init : MethodName := ⟨RX7, "<init>", "()V"⟩
abbrev cX7_beginIn : ByteArray := prog_9_method_2_code
def yX7_beginIn : MethodName := ⟨RX7, "beginIn", "(I)V"⟩
abbrev cX7_spread : ByteArray := prog_9_method_3_code
def yX7_spread : MethodName := ⟨RX7, "spread", "(LIceBoats$Sea;)V"⟩
abbrev cX7_besides : ByteArray := prog_9_method_4_code
def yX7_besides : MethodName := ⟨RX7, "besides", "(J)J"⟩
def RX8 : String := "IceBoats$Word"
def TX8 : u_T := fun k => match k with
  | 0 => ("IceBoats$Word", "kind", "I", true)
  | 1 => ("IceBoats$Word", "sayer", "I", true)
  | 2 => ("IceBoats$Word", "when", "I", true)
  | 3 => ("IceBoats$Word", "v", "I", true)
  | 4 => ("IceBoats$Word", "sayerCould", "J", true)
  | 5 => ("IceBoats$Word", "comes", "[I", true)
  | _ => ("IceBoats$Word", "fate", "[I", true)
def tyX8 : Nat → FieldType := fun k => match k with
  | 0 => .int
  | 1 => .int
  | 2 => .int
  | 3 => .int
  | 4 => .long
  | 5 => .array .int
  | _ => .array .int
abbrev wsX80 : List Cond := u_ws RX8 TX8 7
theorem nmX8 : ∀ a, a < 7 → ∀ b, b < 7 → a ≠ b → (TX8 a).2.1 ≠ (TX8 b).2.1 := by decide +kernel
theorem tyX8_ok : ∀ k, k < 7 → parseFieldDescriptor (TX8 k).2.2.1 = some (tyX8 k) := by decide +kernel
abbrev cX8_init : ByteArray := prog_10_method_1_code
def yX8_init : MethodName := ⟨RX8, "<init>", "(IIIIJ)V"⟩
abbrev cX8_comesAt : ByteArray := prog_10_method_2_code
def yX8_comesAt : MethodName := ⟨RX8, "comesAt", "(II)Z"⟩
abbrev cX8_knownBy : ByteArray := prog_10_method_3_code
def yX8_knownBy : MethodName := ⟨RX8, "knownBy", "(I)I"⟩
abbrev cX8_hearers : ByteArray := prog_10_method_4_code
def yX8_hearers : MethodName := ⟨RX8, "hearers", "()I"⟩
abbrev cX8_tellOf : ByteArray := prog_10_method_5_code
def yX8_tellOf : MethodName := ⟨RX8, "tellOf", "(I)I"⟩
def RX9 : String := "IceBoats"
def TX9 : u_T := fun k => match k with
  | 0 => ("IceBoats", "rows", "[LIceBoats$Row;", true)
  | 1 => ("IceBoats", "texts", "[LIceBoats$Row;", true)
  | 2 => ("IceBoats", "waters", "LIceBoats$Sea;", true)
  | 3 => ("IceBoats", "fleet", "[LIceBoats$Boat;", true)
  | 4 => ("IceBoats", "words", "[LIceBoats$Word;", true)
  | 5 => ("IceBoats", "looks", "[LIceBoats$Look;", true)
  | 6 => ("IceBoats", "reader", "LIceBoats$RuleReader;", true)
  | 7 => ("IceBoats", "planner", "LIceBoats$Planner;", true)
  | 8 => ("IceBoats", "drift", "LIceBoats$Drift;", true)
  | 9 => ("IceBoats", "findingCounts", "[I", true)
  | 10 => ("IceBoats", "wordCount", "I", false)
  | 11 => ("IceBoats", "lookCount", "I", false)
  | 12 => ("IceBoats", "theTick", "I", false)
  | 13 => ("IceBoats", "lots", "I", false)
  | 14 => ("IceBoats", "lastFinding", "I", false)
  | 15 => ("IceBoats", "lastAsked", "I", false)
  | 16 => ("IceBoats", "lastSet", "J", false)
  | 17 => ("IceBoats", "lastUpper", "J", false)
  | _ => ("IceBoats", "lastLower", "J", false)
def tyX9 : Nat → FieldType := fun k => match k with
  | 0 => .array (.object "IceBoats$Row")
  | 1 => .array (.object "IceBoats$Row")
  | 2 => .object "IceBoats$Sea"
  | 3 => .array (.object "IceBoats$Boat")
  | 4 => .array (.object "IceBoats$Word")
  | 5 => .array (.object "IceBoats$Look")
  | 6 => .object "IceBoats$RuleReader"
  | 7 => .object "IceBoats$Planner"
  | 8 => .object "IceBoats$Drift"
  | 9 => .array .int
  | 10 => .int
  | 11 => .int
  | 12 => .int
  | 13 => .int
  | 14 => .int
  | 15 => .int
  | 16 => .long
  | 17 => .long
  | _ => .long
abbrev wsX90 : List Cond := u_ws RX9 TX9 19
theorem nmX9 : ∀ a, a < 19 → ∀ b, b < 19 → a ≠ b → (TX9 a).2.1 ≠ (TX9 b).2.1 := by decide +kernel
theorem tyX9_ok : ∀ k, k < 19 → parseFieldDescriptor (TX9 k).2.2.1 = some (tyX9 k) := by decide +kernel
abbrev cX9_init : ByteArray := prog_1_method_1_code
def yX9_init : MethodName := ⟨RX9, "<init>", "()V"⟩
abbrev cX9_row : ByteArray := prog_1_method_2_code
def yX9_row : MethodName := ⟨RX9, "row", "(II)I"⟩
abbrev cX9_lay : ByteArray := prog_1_method_3_code
def yX9_lay : MethodName := ⟨RX9, "lay", "(III)I"⟩
abbrev cX9_tear : ByteArray := prog_1_method_4_code
def yX9_tear : MethodName := ⟨RX9, "tear", "(I)I"⟩
abbrev cX9_copy : ByteArray := prog_1_method_5_code
def yX9_copy : MethodName := ⟨RX9, "copy", "(IIIII)I"⟩
abbrev cX9_mean : ByteArray := prog_1_method_6_code
def yX9_mean : MethodName := ⟨RX9, "mean", "(I)I"⟩
abbrev cX9_text : ByteArray := prog_1_method_7_code
def yX9_text : MethodName := ⟨RX9, "text", "(II)I"⟩
abbrev cX9_put : ByteArray := prog_1_method_8_code
def yX9_put : MethodName := ⟨RX9, "put", "(III)I"⟩
abbrev cX9_rock : ByteArray := prog_1_method_9_code
def yX9_rock : MethodName := ⟨RX9, "rock", "(IZ)I"⟩
abbrev cX9_cell : ByteArray := prog_1_method_10_code
def yX9_cell : MethodName := ⟨RX9, "cell", "(IIII)I"⟩
abbrev cX9_sea : ByteArray := prog_1_method_11_code
def yX9_sea : MethodName := ⟨RX9, "sea", "(II)I"⟩
abbrev cX9_chart : ByteArray := prog_1_method_12_code
def yX9_chart : MethodName := ⟨RX9, "chart", "(II)I"⟩
abbrev cX9_hole : ByteArray := prog_1_method_13_code
def yX9_hole : MethodName := ⟨RX9, "hole", "(I)I"⟩
abbrev cX9_seed : ByteArray := prog_1_method_14_code
def yX9_seed : MethodName := ⟨RX9, "seed", "(I)I"⟩
abbrev cX9_boat : ByteArray := prog_1_method_15_code
def yX9_boat : MethodName := ⟨RX9, "boat", "(IIII)I"⟩
abbrev cX9_told : ByteArray := prog_1_method_16_code
def yX9_told : MethodName := ⟨RX9, "told", "(II)I"⟩
abbrev cX9_mark : ByteArray := prog_1_method_17_code
def yX9_mark : MethodName := ⟨RX9, "mark", "(II)I"⟩
abbrev cX9_could : ByteArray := prog_1_method_18_code
def yX9_could : MethodName := ⟨RX9, "could", "(I)I"⟩
abbrev cX9_go : ByteArray := prog_1_method_19_code
def yX9_go : MethodName := ⟨RX9, "go", "(II)I"⟩
abbrev cX9_tick : ByteArray := prog_1_method_20_code
def yX9_tick : MethodName := ⟨RX9, "tick", "()I"⟩
abbrev cX9_look : ByteArray := prog_1_method_21_code
def yX9_look : MethodName := ⟨RX9, "look", "(I)I"⟩
abbrev cX9_looked : ByteArray := prog_1_method_22_code
def yX9_looked : MethodName := ⟨RX9, "looked", "(II)I"⟩
abbrev cX9_match : ByteArray := prog_1_method_23_code
def yX9_match : MethodName := ⟨RX9, "match", "(I)I"⟩
abbrev cX9_home : ByteArray := prog_1_method_24_code
def yX9_home : MethodName := ⟨RX9, "home", "(I)I"⟩
abbrev cX9_time : ByteArray := prog_1_method_25_code
def yX9_time : MethodName := ⟨RX9, "time", "(II)I"⟩
abbrev cX9_say : ByteArray := prog_1_method_26_code
def yX9_say : MethodName := ⟨RX9, "say", "(III)I"⟩
abbrev cX9_word : ByteArray := prog_1_method_27_code
def yX9_word : MethodName := ⟨RX9, "word", "(II)I"⟩
abbrev cX9_tells : ByteArray := prog_1_method_28_code
def yX9_tells : MethodName := ⟨RX9, "tells", "(II)I"⟩
abbrev cX9_heard : ByteArray := prog_1_method_29_code
def yX9_heard : MethodName := ⟨RX9, "heard", "(II)I"⟩
abbrev cX9_knows : ByteArray := prog_1_method_30_code
def yX9_knows : MethodName := ⟨RX9, "knows", "(IIII)I"⟩
abbrev cX9_allKnow : ByteArray := prog_1_method_31_code
def yX9_allKnow : MethodName := ⟨RX9, "allKnow", "(III)I"⟩
abbrev cX9_fault : ByteArray := prog_1_method_32_code
def yX9_fault : MethodName := ⟨RX9, "fault", "(I)I"⟩
abbrev cX9_rules : ByteArray := prog_1_method_33_code
def yX9_rules : MethodName := ⟨RX9, "rules", "(II)I"⟩
abbrev cX9_rule : ByteArray := prog_1_method_34_code
def yX9_rule : MethodName := ⟨RX9, "rule", "(II)I"⟩
abbrev cX9_asks : ByteArray := prog_1_method_35_code
def yX9_asks : MethodName := ⟨RX9, "asks", "(I)I"⟩
abbrev cX9_shifts : ByteArray := prog_1_method_36_code
def yX9_shifts : MethodName := ⟨RX9, "shifts", "(III)I"⟩
abbrev cX9_mapped : ByteArray := prog_1_method_37_code
def yX9_mapped : MethodName := ⟨RX9, "mapped", "(I)I"⟩
abbrev cX9_plan : ByteArray := prog_1_method_38_code
def yX9_plan : MethodName := ⟨RX9, "plan", "(II)I"⟩
abbrev cX9_odds : ByteArray := prog_1_method_39_code
def yX9_odds : MethodName := ⟨RX9, "odds", "(II)I"⟩
abbrev cX9_courses : ByteArray := prog_1_method_40_code
def yX9_courses : MethodName := ⟨RX9, "courses", "(III)I"⟩
abbrev cX9_asked : ByteArray := prog_1_method_41_code
def yX9_asked : MethodName := ⟨RX9, "asked", "()I"⟩
abbrev cX9_set : ByteArray := prog_1_method_42_code
def yX9_set : MethodName := ⟨RX9, "set", "()J"⟩
abbrev cX9_upper : ByteArray := prog_1_method_43_code
def yX9_upper : MethodName := ⟨RX9, "upper", "()J"⟩
abbrev cX9_lower : ByteArray := prog_1_method_44_code
def yX9_lower : MethodName := ⟨RX9, "lower", "()J"⟩
abbrev cX9_count : ByteArray := prog_1_method_45_code
def yX9_count : MethodName := ⟨RX9, "count", "(I)I"⟩
abbrev cX9_finding : ByteArray := prog_1_method_46_code
def yX9_finding : MethodName := ⟨RX9, "finding", "()I"⟩
abbrev cX9_findings : ByteArray := prog_1_method_47_code
def yX9_findings : MethodName := ⟨RX9, "findings", "(I)I"⟩
abbrev cX9_digest : ByteArray := prog_1_method_48_code
def yX9_digest : MethodName := ⟨RX9, "digest", "()J"⟩
abbrev cX9_isCell : ByteArray := prog_1_method_49_code
def yX9_isCell : MethodName := ⟨RX9, "isCell", "(I)Z"⟩
abbrev cX9_isOpenCell : ByteArray := prog_1_method_50_code
def yX9_isOpenCell : MethodName := ⟨RX9, "isOpenCell", "(I)Z"⟩
abbrev cX9_isWay : ByteArray := prog_1_method_51_code
def yX9_isWay : MethodName := ⟨RX9, "isWay", "(I)Z"⟩
abbrev cX9_isIce : ByteArray := prog_1_method_52_code
def yX9_isIce : MethodName := ⟨RX9, "isIce", "(I)Z"⟩
abbrev cX9_isBoat : ByteArray := prog_1_method_53_code
def yX9_isBoat : MethodName := ⟨RX9, "isBoat", "(I)Z"⟩
abbrev cX9_isBoatOrNone : ByteArray := prog_1_method_54_code
def yX9_isBoatOrNone : MethodName := ⟨RX9, "isBoatOrNone", "(I)Z"⟩
abbrev cX9_hasBit : ByteArray := prog_1_method_55_code
def yX9_hasBit : MethodName := ⟨RX9, "hasBit", "(JI)Z"⟩
abbrev cX9_rowAt : ByteArray := prog_1_method_56_code
def yX9_rowAt : MethodName := ⟨RX9, "rowAt", "(I)LIceBoats$Row;"⟩
abbrev cX9_textAt : ByteArray := prog_1_method_57_code
def yX9_textAt : MethodName := ⟨RX9, "textAt", "(I)LIceBoats$Row;"⟩
abbrev cX9_boatAt : ByteArray := prog_1_method_58_code
def yX9_boatAt : MethodName := ⟨RX9, "boatAt", "(I)LIceBoats$Boat;"⟩
abbrev cX9_wordAt : ByteArray := prog_1_method_59_code
def yX9_wordAt : MethodName := ⟨RX9, "wordAt", "(I)LIceBoats$Word;"⟩
abbrev cX9_lookAt : ByteArray := prog_1_method_60_code
def yX9_lookAt : MethodName := ⟨RX9, "lookAt", "(I)LIceBoats$Look;"⟩
abbrev cX9_found : ByteArray := prog_1_method_61_code
def yX9_found : MethodName := ⟨RX9, "found", "(I)I"⟩
abbrev cX9_tellAsked : ByteArray := prog_1_method_62_code
def yX9_tellAsked : MethodName := ⟨RX9, "tellAsked", "(I)I"⟩
abbrev cX9_tellSet : ByteArray := prog_1_method_63_code
def yX9_tellSet : MethodName := ⟨RX9, "tellSet", "(J)I"⟩
abbrev cX9_tellShare : ByteArray := prog_1_method_64_code
def yX9_tellShare : MethodName := ⟨RX9, "tellShare", "(JJ)V"⟩
abbrev cX9_stepsBetween : ByteArray := prog_1_method_65_code
def yX9_stepsBetween : MethodName := ⟨RX9, "stepsBetween", "(II)I"⟩
abbrev cX9_leastCell : ByteArray := prog_1_method_66_code
def yX9_leastCell : MethodName := ⟨RX9, "leastCell", "(J)I"⟩
abbrev cX9_boatLiesIn : ByteArray := prog_1_method_67_code
def yX9_boatLiesIn : MethodName := ⟨RX9, "boatLiesIn", "(I)Z"⟩
abbrev cX9_tellOfBoat : ByteArray := prog_1_method_68_code
def yX9_tellOfBoat : MethodName := ⟨RX9, "tellOfBoat", "(ILIceBoats$Boat;I)I"⟩
abbrev cX9_looksHeldBy : ByteArray := prog_1_method_69_code
def yX9_looksHeldBy : MethodName := ⟨RX9, "looksHeldBy", "(I)I"⟩
abbrev cX9_looksOnlyHeldBy : ByteArray := prog_1_method_70_code
def yX9_looksOnlyHeldBy : MethodName := ⟨RX9, "looksOnlyHeldBy", "(I)I"⟩
abbrev cX9_holdsLook : ByteArray := prog_1_method_71_code
def yX9_holdsLook : MethodName := ⟨RX9, "holdsLook", "(II)Z"⟩
abbrev cX9_holdLook : ByteArray := prog_1_method_72_code
def yX9_holdLook : MethodName := ⟨RX9, "holdLook", "(II)V"⟩
abbrev cX9_iceOfLook : ByteArray := prog_1_method_73_code
def yX9_iceOfLook : MethodName := ⟨RX9, "iceOfLook", "(I)I"⟩
abbrev cX9_ableBoats : ByteArray := prog_1_method_74_code
def yX9_ableBoats : MethodName := ⟨RX9, "ableBoats", "()I"⟩
abbrev cX9_boatsOfKind : ByteArray := prog_1_method_75_code
def yX9_boatsOfKind : MethodName := ⟨RX9, "boatsOfKind", "(I)I"⟩
abbrev cX9_rowsThere : ByteArray := prog_1_method_76_code
def yX9_rowsThere : MethodName := ⟨RX9, "rowsThere", "([LIceBoats$Row;)I"⟩
abbrev cX9_moveBoat : ByteArray := prog_1_method_77_code
def yX9_moveBoat : MethodName := ⟨RX9, "moveBoat", "(LIceBoats$Boat;)V"⟩
abbrev cX9_lotCarries : ByteArray := prog_1_method_78_code
def yX9_lotCarries : MethodName := ⟨RX9, "lotCarries", "()Z"⟩
abbrev cX9_hearWhatComes : ByteArray := prog_1_method_79_code
def yX9_hearWhatComes : MethodName := ⟨RX9, "hearWhatComes", "(I)I"⟩
abbrev cX9_loseMetWords : ByteArray := prog_1_method_80_code
def yX9_loseMetWords : MethodName := ⟨RX9, "loseMetWords", "(I)V"⟩
abbrev cX9_takeIn : ByteArray := prog_1_method_81_code
def yX9_takeIn : MethodName := ⟨RX9, "takeIn", "(LIceBoats$Word;ILIceBoats$Boat;)V"⟩
abbrev cX9_fitsWord : ByteArray := prog_1_method_82_code
def yX9_fitsWord : MethodName := ⟨RX9, "fitsWord", "(II)Z"⟩
abbrev cX9_sendWord : ByteArray := prog_1_method_83_code
def yX9_sendWord : MethodName := ⟨RX9, "sendWord", "(LIceBoats$Word;I)V"⟩
abbrev cX9_knownOf : ByteArray := prog_1_method_84_code
def yX9_knownOf : MethodName := ⟨RX9, "knownOf", "(LIceBoats$Word;II)I"⟩
abbrev cX9_knownOfKnown : ByteArray := prog_1_method_85_code
def yX9_knownOfKnown : MethodName := ⟨RX9, "knownOfKnown", "(LIceBoats$Word;III)I"⟩
abbrev cX9_firstHeardFrom : ByteArray := prog_1_method_86_code
def yX9_firstHeardFrom : MethodName := ⟨RX9, "firstHeardFrom", "(III)I"⟩
abbrev cX9_knownOfAll : ByteArray := prog_1_method_87_code
def yX9_knownOfAll : MethodName := ⟨RX9, "knownOfAll", "(LIceBoats$Word;III)I"⟩
abbrev cX9_laterOrNone : ByteArray := prog_1_method_88_code
def yX9_laterOrNone : MethodName := ⟨RX9, "laterOrNone", "(II)I"⟩
abbrev cX9_isDueNow : ByteArray := prog_1_method_89_code
def yX9_isDueNow : MethodName := ⟨RX9, "isDueNow", "(I)Z"⟩
abbrev cX9_isMap : ByteArray := prog_1_method_90_code
def yX9_isMap : MethodName := ⟨RX9, "isMap", "(LIceBoats$Row;)Z"⟩
abbrev cX9_alikePlaces : ByteArray := prog_1_method_91_code
def yX9_alikePlaces : MethodName := ⟨RX9, "alikePlaces", "(LIceBoats$Row;LIceBoats$Row;II)I"⟩
abbrev cX9_areWays : ByteArray := prog_1_method_92_code
def yX9_areWays : MethodName := ⟨RX9, "areWays", "(LIceBoats$Row;)Z"⟩
abbrev cX9_faultOfWays : ByteArray := prog_1_method_93_code
def yX9_faultOfWays : MethodName := ⟨RX9, "faultOfWays", "(LIceBoats$Row;I)I"⟩
abbrev cX9_faultOfPlanRows : ByteArray := prog_1_method_94_code
def yX9_faultOfPlanRows : MethodName := ⟨RX9, "faultOfPlanRows", "(I)I"⟩
abbrev cX9_offerRows : ByteArray := prog_1_method_95_code
def yX9_offerRows : MethodName := ⟨RX9, "offerRows", "(III)V"⟩
abbrev cX9_powerFor : ByteArray := prog_1_method_96_code
def yX9_powerFor : MethodName := ⟨RX9, "powerFor", "(LIceBoats$Row;)I"⟩
abbrev cX9_faultOfCourses : ByteArray := prog_1_method_97_code
def yX9_faultOfCourses : MethodName := ⟨RX9, "faultOfCourses", "(LIceBoats$Row;LIceBoats$Row;)I"⟩
abbrev cX9_areSights : ByteArray := prog_1_method_98_code
def yX9_areSights : MethodName := ⟨RX9, "areSights", "(LIceBoats$Row;I)Z"⟩
abbrev cX9_keepWhatWasSeen : ByteArray := prog_1_method_99_code
def yX9_keepWhatWasSeen : MethodName := ⟨RX9, "keepWhatWasSeen", "(LIceBoats$Row;I)V"⟩
abbrev cX9_digestBoats : ByteArray := prog_1_method_100_code
def yX9_digestBoats : MethodName := ⟨RX9, "digestBoats", "(J)J"⟩
abbrev cX9_digestWords : ByteArray := prog_1_method_101_code
def yX9_digestWords : MethodName := ⟨RX9, "digestWords", "(J)J"⟩
abbrev cX9_digestLooks : ByteArray := prog_1_method_102_code
def yX9_digestLooks : MethodName := ⟨RX9, "digestLooks", "(J)J"⟩
abbrev cX9_digestRows : ByteArray := prog_1_method_103_code
def yX9_digestRows : MethodName := ⟨RX9, "digestRows", "(J[LIceBoats$Row;)J"⟩
def RX10 : String := "IceBoatsModel"
def TX10 : u_T := fun k => match k with
  | 0 => ("IceBoatsModel", "finding", "I", false)
  | 1 => ("IceBoatsModel", "findings", "[I", true)
  | 2 => ("IceBoatsModel", "asked", "I", false)
  | 3 => ("IceBoatsModel", "cellSet", "J", false)
  | 4 => ("IceBoatsModel", "upper", "J", false)
  | 5 => ("IceBoatsModel", "lower", "J", false)
  | 6 => ("IceBoatsModel", "now", "I", false)
  | 7 => ("IceBoatsModel", "sizes", "[I", true)
  | 8 => ("IceBoatsModel", "rows", "[I", true)
  | 9 => ("IceBoatsModel", "moving", "[I", true)
  | 10 => ("IceBoatsModel", "lengths", "[I", true)
  | 11 => ("IceBoatsModel", "texts", "[I", true)
  | 12 => ("IceBoatsModel", "isRock", "[Z", true)
  | 13 => ("IceBoatsModel", "current", "[I", true)
  | 14 => ("IceBoatsModel", "warmth", "[I", true)
  | 15 => ("IceBoatsModel", "ice", "[I", true)
  | 16 => ("IceBoatsModel", "charts", "[I", true)
  | 17 => ("IceBoatsModel", "holeAt", "I", false)
  | 18 => ("IceBoatsModel", "lots", "I", false)
  | 19 => ("IceBoatsModel", "times", "[I", true)
  | 20 => ("IceBoatsModel", "kinds", "[I", true)
  | 21 => ("IceBoatsModel", "cellOf", "[I", true)
  | 22 => ("IceBoatsModel", "power", "[I", true)
  | 23 => ("IceBoatsModel", "coulds", "[J", true)
  | 24 => ("IceBoatsModel", "wayTold", "[I", true)
  | 25 => ("IceBoatsModel", "heardAt", "[I", true)
  | 26 => ("IceBoatsModel", "saidAt", "[I", true)
  | 27 => ("IceBoatsModel", "saidMany", "[I", true)
  | 28 => ("IceBoatsModel", "lookMany", "[I", true)
  | 29 => ("IceBoatsModel", "since", "[I", true)
  | 30 => ("IceBoatsModel", "looks", "I", false)
  | 31 => ("IceBoatsModel", "lookCell", "[I", true)
  | 32 => ("IceBoatsModel", "lookIce", "[I", true)
  | 33 => ("IceBoatsModel", "lookHeld", "[I", true)
  | 34 => ("IceBoatsModel", "lookTick", "[I", true)
  | 35 => ("IceBoatsModel", "lookBy", "[I", true)
  | 36 => ("IceBoatsModel", "words", "I", false)
  | 37 => ("IceBoatsModel", "wordKind", "[I", true)
  | 38 => ("IceBoatsModel", "wordBy", "[I", true)
  | 39 => ("IceBoatsModel", "wordTick", "[I", true)
  | 40 => ("IceBoatsModel", "wordOf", "[I", true)
  | 41 => ("IceBoatsModel", "wordCould", "[J", true)
  | 42 => ("IceBoatsModel", "comes", "[I", true)
  | 43 => ("IceBoatsModel", "isHow", "[I", true)
  | 44 => ("IceBoatsModel", "ruleOf", "[I", true)
  | 45 => ("IceBoatsModel", "items", "[I", true)
  | 46 => ("IceBoatsModel", "planned", "[I", true)
  | 47 => ("IceBoatsModel", "by", "[J", true)
  | 48 => ("IceBoatsModel", "shares", "[J", true)
  | 49 => ("IceBoatsModel", "nextShares", "[J", true)
  | _ => ("IceBoatsModel", "h", "J", false)
def tyX10 : Nat → FieldType := fun k => match k with
  | 0 => .int
  | 1 => .array .int
  | 2 => .int
  | 3 => .long
  | 4 => .long
  | 5 => .long
  | 6 => .int
  | 7 => .array .int
  | 8 => .array .int
  | 9 => .array .int
  | 10 => .array .int
  | 11 => .array .int
  | 12 => .array .boolean
  | 13 => .array .int
  | 14 => .array .int
  | 15 => .array .int
  | 16 => .array .int
  | 17 => .int
  | 18 => .int
  | 19 => .array .int
  | 20 => .array .int
  | 21 => .array .int
  | 22 => .array .int
  | 23 => .array .long
  | 24 => .array .int
  | 25 => .array .int
  | 26 => .array .int
  | 27 => .array .int
  | 28 => .array .int
  | 29 => .array .int
  | 30 => .int
  | 31 => .array .int
  | 32 => .array .int
  | 33 => .array .int
  | 34 => .array .int
  | 35 => .array .int
  | 36 => .int
  | 37 => .array .int
  | 38 => .array .int
  | 39 => .array .int
  | 40 => .array .int
  | 41 => .array .long
  | 42 => .array .int
  | 43 => .array .int
  | 44 => .array .int
  | 45 => .array .int
  | 46 => .array .int
  | 47 => .array .long
  | 48 => .array .long
  | 49 => .array .long
  | _ => .long
abbrev wsX100 : List Cond := u_ws RX10 TX10 51
theorem nmX10 : ∀ a, a < 51 → ∀ b, b < 51 → a ≠ b → (TX10 a).2.1 ≠ (TX10 b).2.1 := by decide +kernel
theorem tyX10_ok : ∀ k, k < 51 → parseFieldDescriptor (TX10 k).2.2.1 = some (tyX10 k) := by decide +kernel
abbrev cX10_init : ByteArray := prog_12_method_1_code
def yX10_init : MethodName := ⟨RX10, "<init>", "()V"⟩
abbrev cX10_in : ByteArray := prog_12_method_3_code
def yX10_in : MethodName := ⟨RX10, "in", "(III)Z"⟩
abbrev cX10_meets : ByteArray := prog_12_method_4_code
def yX10_meets : MethodName := ⟨RX10, "meets", "(I)I"⟩
abbrev cX10_ask : ByteArray := prog_12_method_5_code
def yX10_ask : MethodName := ⟨RX10, "ask", "(II)I"⟩
abbrev cX10_isCell : ByteArray := prog_12_method_6_code
def yX10_isCell : MethodName := ⟨RX10, "isCell", "(I)Z"⟩
abbrev cX10_isWay : ByteArray := prog_12_method_7_code
def yX10_isWay : MethodName := ⟨RX10, "isWay", "(I)Z"⟩
abbrev cX10_isIce : ByteArray := prog_12_method_8_code
def yX10_isIce : MethodName := ⟨RX10, "isIce", "(I)Z"⟩
abbrev cX10_isBoat : ByteArray := prog_12_method_9_code
def yX10_isBoat : MethodName := ⟨RX10, "isBoat", "(I)Z"⟩
abbrev cX10_has : ByteArray := prog_12_method_10_code
def yX10_has : MethodName := ⟨RX10, "has", "(JI)Z"⟩
abbrev cX10_many : ByteArray := prog_12_method_11_code
def yX10_many : MethodName := ⟨RX10, "many", "(J)I"⟩
abbrev cX10_least : ByteArray := prog_12_method_12_code
def yX10_least : MethodName := ⟨RX10, "least", "(J)I"⟩
abbrev cX10_isRow : ByteArray := prog_12_method_13_code
def yX10_isRow : MethodName := ⟨RX10, "isRow", "(I)Z"⟩
abbrev cX10_isText : ByteArray := prog_12_method_14_code
def yX10_isText : MethodName := ⟨RX10, "isText", "(I)Z"⟩
abbrev cX10_askedRow : ByteArray := prog_12_method_15_code
def yX10_askedRow : MethodName := ⟨RX10, "askedRow", "(I)I"⟩
abbrev cX10_askedText : ByteArray := prog_12_method_16_code
def yX10_askedText : MethodName := ⟨RX10, "askedText", "(I)I"⟩
abbrev cX10_rowAt : ByteArray := prog_12_method_17_code
def yX10_rowAt : MethodName := ⟨RX10, "rowAt", "(II)I"⟩
abbrev cX10_row : ByteArray := prog_12_method_18_code
def yX10_row : MethodName := ⟨RX10, "row", "(II)I"⟩
abbrev cX10_lay : ByteArray := prog_12_method_19_code
def yX10_lay : MethodName := ⟨RX10, "lay", "(III)I"⟩
abbrev cX10_tear : ByteArray := prog_12_method_20_code
def yX10_tear : MethodName := ⟨RX10, "tear", "(I)I"⟩
abbrev cX10_copy : ByteArray := prog_12_method_21_code
def yX10_copy : MethodName := ⟨RX10, "copy", "(IIIII)I"⟩
abbrev cX10_mean : ByteArray := prog_12_method_22_code
def yX10_mean : MethodName := ⟨RX10, "mean", "(I)I"⟩
abbrev cX10_text : ByteArray := prog_12_method_23_code
def yX10_text : MethodName := ⟨RX10, "text", "(II)I"⟩
abbrev cX10_put : ByteArray := prog_12_method_24_code
def yX10_put : MethodName := ⟨RX10, "put", "(III)I"⟩
abbrev cX10_isTaken : ByteArray := prog_12_method_25_code
def yX10_isTaken : MethodName := ⟨RX10, "isTaken", "(I)Z"⟩
abbrev cX10_rock : ByteArray := prog_12_method_26_code
def yX10_rock : MethodName := ⟨RX10, "rock", "(IZ)I"⟩
abbrev cX10_cell : ByteArray := prog_12_method_27_code
def yX10_cell : MethodName := ⟨RX10, "cell", "(IIII)I"⟩
abbrev cX10_seaTells : ByteArray := prog_12_method_28_code
def yX10_seaTells : MethodName := ⟨RX10, "seaTells", "(II)I"⟩
abbrev cX10_sea : ByteArray := prog_12_method_29_code
def yX10_sea : MethodName := ⟨RX10, "sea", "(II)I"⟩
abbrev cX10_chart : ByteArray := prog_12_method_30_code
def yX10_chart : MethodName := ⟨RX10, "chart", "(II)I"⟩
abbrev cX10_hole : ByteArray := prog_12_method_31_code
def yX10_hole : MethodName := ⟨RX10, "hole", "(I)I"⟩
abbrev cX10_seed : ByteArray := prog_12_method_32_code
def yX10_seed : MethodName := ⟨RX10, "seed", "(I)I"⟩
abbrev cX10_leads : ByteArray := prog_12_method_33_code
def yX10_leads : MethodName := ⟨RX10, "leads", "(II)I"⟩
abbrev cX10_apart : ByteArray := prog_12_method_34_code
def yX10_apart : MethodName := ⟨RX10, "apart", "(II)I"⟩
abbrev cX10_setTimes : ByteArray := prog_12_method_35_code
def yX10_setTimes : MethodName := ⟨RX10, "setTimes", "(I)V"⟩
abbrev cX10_time : ByteArray := prog_12_method_36_code
def yX10_time : MethodName := ⟨RX10, "time", "(II)I"⟩
abbrev cX10_isAble : ByteArray := prog_12_method_37_code
def yX10_isAble : MethodName := ⟨RX10, "isAble", "(I)Z"⟩
abbrev cX10_boat : ByteArray := prog_12_method_38_code
def yX10_boat : MethodName := ⟨RX10, "boat", "(IIII)I"⟩
abbrev cX10_heldBy : ByteArray := prog_12_method_39_code
def yX10_heldBy : MethodName := ⟨RX10, "heldBy", "(I)I"⟩
abbrev cX10_boatTells : ByteArray := prog_12_method_40_code
def yX10_boatTells : MethodName := ⟨RX10, "boatTells", "(II)I"⟩
abbrev cX10_told : ByteArray := prog_12_method_41_code
def yX10_told : MethodName := ⟨RX10, "told", "(II)I"⟩
abbrev cX10_mark : ByteArray := prog_12_method_42_code
def yX10_mark : MethodName := ⟨RX10, "mark", "(II)I"⟩
abbrev cX10_could : ByteArray := prog_12_method_43_code
def yX10_could : MethodName := ⟨RX10, "could", "(I)I"⟩
abbrev cX10_go : ByteArray := prog_12_method_44_code
def yX10_go : MethodName := ⟨RX10, "go", "(II)I"⟩
abbrev cX10_isCarried : ByteArray := prog_12_method_45_code
def yX10_isCarried : MethodName := ⟨RX10, "isCarried", "()Z"⟩
abbrev cX10_moves : ByteArray := prog_12_method_46_code
def yX10_moves : MethodName := ⟨RX10, "moves", "(I)V"⟩
abbrev cX10_tick : ByteArray := prog_12_method_47_code
def yX10_tick : MethodName := ⟨RX10, "tick", "()I"⟩
abbrev cX10_look : ByteArray := prog_12_method_48_code
def yX10_look : MethodName := ⟨RX10, "look", "(I)I"⟩
abbrev cX10_isLook : ByteArray := prog_12_method_49_code
def yX10_isLook : MethodName := ⟨RX10, "isLook", "(I)Z"⟩
abbrev cX10_lookTells : ByteArray := prog_12_method_50_code
def yX10_lookTells : MethodName := ⟨RX10, "lookTells", "(II)I"⟩
abbrev cX10_looked : ByteArray := prog_12_method_51_code
def yX10_looked : MethodName := ⟨RX10, "looked", "(II)I"⟩
abbrev cX10_match : ByteArray := prog_12_method_52_code
def yX10_match : MethodName := ⟨RX10, "match", "(I)I"⟩
abbrev cX10_home : ByteArray := prog_12_method_53_code
def yX10_home : MethodName := ⟨RX10, "home", "(I)I"⟩
abbrev cX10_isSaid : ByteArray := prog_12_method_54_code
def yX10_isSaid : MethodName := ⟨RX10, "isSaid", "(II)Z"⟩
abbrev cX10_say : ByteArray := prog_12_method_55_code
def yX10_say : MethodName := ⟨RX10, "say", "(III)I"⟩
abbrev cX10_hears : ByteArray := prog_12_method_56_code
def yX10_hears : MethodName := ⟨RX10, "hears", "(I)I"⟩
abbrev cX10_nearer : ByteArray := prog_12_method_57_code
def yX10_nearer : MethodName := ⟨RX10, "nearer", "(II)I"⟩
abbrev cX10_takes : ByteArray := prog_12_method_58_code
def yX10_takes : MethodName := ⟨RX10, "takes", "(II)V"⟩
abbrev cX10_keepsFar : ByteArray := prog_12_method_59_code
def yX10_keepsFar : MethodName := ⟨RX10, "keepsFar", "(II)V"⟩
abbrev cX10_isWord : ByteArray := prog_12_method_60_code
def yX10_isWord : MethodName := ⟨RX10, "isWord", "(I)Z"⟩
abbrev cX10_wordTells : ByteArray := prog_12_method_61_code
def yX10_wordTells : MethodName := ⟨RX10, "wordTells", "(II)I"⟩
abbrev cX10_word : ByteArray := prog_12_method_62_code
def yX10_word : MethodName := ⟨RX10, "word", "(II)I"⟩
abbrev cX10_tells : ByteArray := prog_12_method_63_code
def yX10_tells : MethodName := ⟨RX10, "tells", "(II)I"⟩
abbrev cX10_heard : ByteArray := prog_12_method_64_code
def yX10_heard : MethodName := ⟨RX10, "heard", "(II)I"⟩
abbrev cX10_knowsAt : ByteArray := prog_12_method_65_code
def yX10_knowsAt : MethodName := ⟨RX10, "knowsAt", "(II)I"⟩
abbrev cX10_learns : ByteArray := prog_12_method_66_code
def yX10_learns : MethodName := ⟨RX10, "learns", "(III)I"⟩
abbrev cX10_knowsOf : ByteArray := prog_12_method_67_code
def yX10_knowsOf : MethodName := ⟨RX10, "knowsOf", "(IIII)I"⟩
abbrev cX10_knows : ByteArray := prog_12_method_68_code
def yX10_knows : MethodName := ⟨RX10, "knows", "(IIII)I"⟩
abbrev cX10_allKnow : ByteArray := prog_12_method_69_code
def yX10_allKnow : MethodName := ⟨RX10, "allKnow", "(III)I"⟩
abbrev cX10_letter : ByteArray := prog_12_method_70_code
def yX10_letter : MethodName := ⟨RX10, "letter", "(I)I"⟩
abbrev cX10_reads : ByteArray := prog_12_method_71_code
def yX10_reads : MethodName := ⟨RX10, "reads", "(I)I"⟩
abbrev cX10_fault : ByteArray := prog_12_method_72_code
def yX10_fault : MethodName := ⟨RX10, "fault", "(I)I"⟩
abbrev cX10_rules : ByteArray := prog_12_method_73_code
def yX10_rules : MethodName := ⟨RX10, "rules", "(II)I"⟩
abbrev cX10_rule : ByteArray := prog_12_method_74_code
def yX10_rule : MethodName := ⟨RX10, "rule", "(II)I"⟩
abbrev cX10_asks : ByteArray := prog_12_method_75_code
def yX10_asks : MethodName := ⟨RX10, "asks", "(I)I"⟩
abbrev cX10_isMap : ByteArray := prog_12_method_76_code
def yX10_isMap : MethodName := ⟨RX10, "isMap", "(I)Z"⟩
abbrev cX10_agrees : ByteArray := prog_12_method_77_code
def yX10_agrees : MethodName := ⟨RX10, "agrees", "(IIII)I"⟩
abbrev cX10_shifts : ByteArray := prog_12_method_78_code
def yX10_shifts : MethodName := ⟨RX10, "shifts", "(III)I"⟩
abbrev cX10_mapped : ByteArray := prog_12_method_79_code
def yX10_mapped : MethodName := ⟨RX10, "mapped", "(I)I"⟩
abbrev cX10_areWays : ByteArray := prog_12_method_80_code
def yX10_areWays : MethodName := ⟨RX10, "areWays", "(II)Z"⟩
abbrev cX10_comesBy : ByteArray := prog_12_method_81_code
def yX10_comesBy : MethodName := ⟨RX10, "comesBy", "(II)J"⟩
abbrev cX10_plan : ByteArray := prog_12_method_82_code
def yX10_plan : MethodName := ⟨RX10, "plan", "(II)I"⟩
abbrev cX10_askedWays : ByteArray := prog_12_method_83_code
def yX10_askedWays : MethodName := ⟨RX10, "askedWays", "(III)I"⟩
abbrev cX10_share : ByteArray := prog_12_method_84_code
def yX10_share : MethodName := ⟨RX10, "share", "(JJ)I"⟩
abbrev cX10_odds : ByteArray := prog_12_method_85_code
def yX10_odds : MethodName := ⟨RX10, "odds", "(II)I"⟩
abbrev cX10_isCourse : ByteArray := prog_12_method_86_code
def yX10_isCourse : MethodName := ⟨RX10, "isCourse", "(IIII)Z"⟩
abbrev cX10_courses : ByteArray := prog_12_method_87_code
def yX10_courses : MethodName := ⟨RX10, "courses", "(III)I"⟩
abbrev cX10_asked : ByteArray := prog_12_method_88_code
def yX10_asked : MethodName := ⟨RX10, "asked", "()I"⟩
abbrev cX10_set : ByteArray := prog_12_method_89_code
def yX10_set : MethodName := ⟨RX10, "set", "()J"⟩
abbrev cX10_upper : ByteArray := prog_12_method_90_code
def yX10_upper : MethodName := ⟨RX10, "upper", "()J"⟩
abbrev cX10_lower : ByteArray := prog_12_method_91_code
def yX10_lower : MethodName := ⟨RX10, "lower", "()J"⟩
abbrev cX10_counts : ByteArray := prog_12_method_92_code
def yX10_counts : MethodName := ⟨RX10, "counts", "(I)I"⟩
abbrev cX10_count : ByteArray := prog_12_method_93_code
def yX10_count : MethodName := ⟨RX10, "count", "(I)I"⟩
abbrev cX10_finding : ByteArray := prog_12_method_94_code
def yX10_finding : MethodName := ⟨RX10, "finding", "()I"⟩
abbrev cX10_findings : ByteArray := prog_12_method_95_code
def yX10_findings : MethodName := ⟨RX10, "findings", "(I)I"⟩
abbrev cX10_mix : ByteArray := prog_12_method_96_code
def yX10_mix : MethodName := ⟨RX10, "mix", "(J)V"⟩
abbrev cX10_mixBoats : ByteArray := prog_12_method_97_code
def yX10_mixBoats : MethodName := ⟨RX10, "mixBoats", "()V"⟩
abbrev cX10_mixWords : ByteArray := prog_12_method_98_code
def yX10_mixWords : MethodName := ⟨RX10, "mixWords", "()V"⟩
abbrev cX10_digest : ByteArray := prog_12_method_99_code
def yX10_digest : MethodName := ⟨RX10, "digest", "()J"⟩
def RJ6 : String := "java/lang/Integer"
def TJ6 : u_T := fun k => match k with
  | _ => ("", "", "", false)
def tyJ6 : Nat → FieldType := fun k => match k with
  | _ => .int
abbrev wsJ60 : List Cond := u_ws RJ6 TJ6 0
theorem nmJ6 : ∀ a, a < 0 → ∀ b, b < 0 → a ≠ b → (TJ6 a).2.1 ≠ (TJ6 b).2.1 := by decide +kernel
theorem tyJ6_ok : ∀ k, k < 0 → parseFieldDescriptor (TJ6 k).2.2.1 = some (tyJ6 k) := by decide +kernel
abbrev cJ6_bitCount_0f7a4 : ByteArray := prog_13_method_49_code
def yJ6_bitCount_0f7a4 : MethodName := ⟨RJ6, "bitCount", "(I)I"⟩
def RJ13 : String := "java/lang/Long"
def TJ13 : u_T := fun k => match k with
  | _ => ("", "", "", false)
def tyJ13 : Nat → FieldType := fun k => match k with
  | _ => .int
abbrev wsJ130 : List Cond := u_ws RJ13 TJ13 0
theorem nmJ13 : ∀ a, a < 0 → ∀ b, b < 0 → a ≠ b → (TJ13 a).2.1 ≠ (TJ13 b).2.1 := by decide +kernel
theorem tyJ13_ok : ∀ k, k < 0 → parseFieldDescriptor (TJ13 k).2.2.1 = some (tyJ13 k) := by decide +kernel
abbrev cJ13_bitCount_95d88 : ByteArray := prog_14_method_50_code
def yJ13_bitCount_95d88 : MethodName := ⟨RJ13, "bitCount", "(J)I"⟩
def RJ9 : String := "java/lang/Math"
def TJ9 : u_T := fun k => match k with
  | _ => ("", "", "", false)
def tyJ9 : Nat → FieldType := fun k => match k with
  | _ => .int
abbrev wsJ90 : List Cond := u_ws RJ9 TJ9 0
theorem nmJ9 : ∀ a, a < 0 → ∀ b, b < 0 → a ≠ b → (TJ9 a).2.1 ≠ (TJ9 b).2.1 := by decide +kernel
theorem tyJ9_ok : ∀ k, k < 0 → parseFieldDescriptor (TJ9 k).2.2.1 = some (tyJ9 k) := by decide +kernel
abbrev cJ9_abs_0f7a4 : ByteArray := prog_15_method_59_code
def yJ9_abs_0f7a4 : MethodName := ⟨RJ9, "abs", "(I)I"⟩
abbrev cJ9_max_7cf53 : ByteArray := prog_15_method_65_code
def yJ9_max_7cf53 : MethodName := ⟨RJ9, "max", "(II)I"⟩
abbrev cJ9_min_7cf53 : ByteArray := prog_15_method_69_code
def yJ9_min_7cf53 : MethodName := ⟨RJ9, "min", "(II)I"⟩
def RJ10 : String := "java/lang/System"
def TJ10 : u_T := fun k => match k with
  | _ => ("", "", "", false)
def tyJ10 : Nat → FieldType := fun k => match k with
  | _ => .int
abbrev wsJ100 : List Cond := u_ws RJ10 TJ10 0
theorem nmJ10 : ∀ a, a < 0 → ∀ b, b < 0 → a ≠ b → (TJ10 a).2.1 ≠ (TJ10 b).2.1 := by decide +kernel
theorem tyJ10_ok : ∀ k, k < 0 → parseFieldDescriptor (TJ10 k).2.2.1 = some (tyJ10 k) := by decide +kernel
def RL : String := "IceBoatsLaw"
abbrev cL_law : ByteArray := code
def yL_law : MethodName := ⟨RL, "law", "([I)Z"⟩
abbrev vwCl : List vw_C := [(RX0, TX0, 12), (RX1, TX1, 4), (RX2, TX2, 4), (RX3, TX3, 4), (RX4, TX4, 2), (RX5, TX5, 1), (RX6, TX6, 8), (RX7, TX7, 2), (RX8, TX8, 7), (RX9, TX9, 19), (RX10, TX10, 51)]
end
section
/-! ===== the tables' words, decided by lists of numbers ===== -/
def xTs : List Cond := lw_tbl.filter goodWord
theorem x_mem {w : Cond} (i : Nat) (h : lw_tbl[i]? = some w) (hg : goodWord w = true) : w ∈ xTs := List.mem_filter.mpr ⟨List.mem_of_getElem? h, hg⟩
theorem x_good : ∀ w ∈ xTs, (w.onTables && w.keeps) = true ∨ ∃ ty, w = .arrayClass ty := fun _ hw => good_of_word (List.mem_filter.mp hw).2
section XB
variable (cl : List vw_C) (MT : Nat → Option XM) (FT : Nat → Nat → Option FieldType) (FD : Nat → Option (List XV)) (TY : Nat → Option FieldType) (SV : List (String × String × String × Nat)) (NW : List (String × Nat × MethodName × String)) (NF : List (String × Nat × String × String × String × String)) (xR : Nat → String) (fin : Nat → Nat → Bool)
variable (FL MV MS MI OI CL AL KI KL GS : List (Nat × Nat × Nat × Nat × Int))
/-- an instruction, decided: the tables' lists name its numbers -/
def xokb (M : XM) (pc a b : Nat) (z : Int) (i : Instr) : Bool := (match i with
  | .tableswitch .. => (match decode (xm_c M) pc with
    | .ok q => decide (q.1 = i)
    | _ => false)
  | _ => (match decode (xm_c M) pc with
    | .ok q => decide (q = (i, xlen i))
    | _ => false)) && (match i with
  | .iconst v => decide ((Int32.ofInt v).toInt = z)
  | .bipush v => decide (((Int8.ofInt v).toInt32).toInt = z)
  | .sipush v => decide (((Int16.ofInt v).toInt32).toInt = z)
  | .ldc j => KI.contains (xm_i M, j, 0, 0, z)
  | .ldc_w j => KI.contains (xm_i M, j, 0, 0, z)
  | .lconst v => decide ((Int64.ofNat (v : Nat)).toInt = z)
  | .ldc2_w j => KL.contains (xm_i M, j, 0, 0, z)
  | .iinc _ g => decide ((Int32.ofInt g).toInt = z)
  | .ifCond _ o => decide ((pc : Int) + o = (a : Int))
  | .if_icmp _ o => decide ((pc : Int) + o = (a : Int))
  | .ifnull o => decide ((pc : Int) + o = (a : Int))
  | .ifnonnull o => decide ((pc : Int) + o = (a : Int))
  | .goto o => decide ((pc : Int) + o = (a : Int))
  | .newarray t => decide ((t = .int ∧ a = 0) ∨ (t = .long ∧ a = 1) ∨ (t = .boolean ∧ a = 2))
  | .anewarray j => AL.contains (xm_i M, j, a, 0, 0)
  | .new j => CL.contains (xm_i M, j, a, 0, 0)
  | .getfield j => FL.contains (xm_i M, j, a, b, 0)
  | .putfield j => FL.contains (xm_i M, j, a, b, 0) && (!fin a b || (decide ((xm_y M).name = "<init>") && xm_i M == a))
  | .getstatic j => GS.contains (xm_i M, j, a, 0, 0)
  | .invokevirtual j => MV.contains (xm_i M, j, a, b, 0)
  | .invokestatic j => MS.contains (xm_i M, j, a, b, 0)
  | .invokespecial j => if a = 9999 then OI.contains (xm_i M, j, 0, 0, 0) else MI.contains (xm_i M, j, a, b, 0)
  | .ireturn => decide (xm_r M = some .int ∨ xm_r M = some .boolean)
  | .lreturn => decide (xm_r M = some .long)
  | .areturn => (match xm_r M with
    | some (.object _) => true
    | _ => false)
  | .return_ => decide (xm_r M = none)
  | _ => true)
/-- what a list's numbers stand for -/
def xP_FL (q : Nat × Nat × Nat × Nat × Int) : Prop := ∃ (C : String) (T : u_T) (N : Nat) (ty : Nat → FieldType), xclo cl xTs q.2.2.1 C T N ty ∧ q.2.2.2.1 < N ∧ Cond.fieldLink (xR q.1) q.2.1 (T q.2.2.2.1).1 (T q.2.2.2.1).2.1 (T q.2.2.2.1).2.2.1 ∈ xTs ∧ FT q.2.2.1 q.2.2.2.1 = some (ty q.2.2.2.1) ∧ (T q.2.2.2.1).2.2.2 = fin q.2.2.1 q.2.2.2.1 ∧ (T q.2.2.2.1).1 = xR q.2.2.1
def xP_MV (q : Nat × Nat × Nat × Nat × Int) : Prop := ∃ (N : XM) (C : String), MT q.2.2.1 = some N ∧ Cond.methodLink (xR q.1) q.2.1 (xm_y N) ∈ xTs ∧ Cond.instanceMethod (xm_y N) ∈ xTs ∧ Cond.selects C (xm_y N) (xm_y N) ∈ xTs ∧ Cond.initialized C ∈ xTs ∧ Cond.code (xm_y N) (xm_c N) (xm_l N) (xm_r N) ∈ xTs ∧ ((xm_y N).cls = C ∧ (xm_y N).cls ≠ "java/lang/invoke/MethodHandle" ∧ (xm_y N).cls ≠ "java/lang/invoke/VarHandle" ∧ (parseMethodDescriptor (xm_y N).desc).map (fun d => d.parameters.length) = some (q.2.2.2.1 - 1)) ∧ ∃ o : vw_C, cl[xm_i N]? = some o ∧ o.1 = C
def xP_MS (q : Nat × Nat × Nat × Nat × Int) : Prop := (q.2.2.1 = 7000 ∧ xmw xTs (xR q.1) q.2.1 Lib.Math.max.name Lib.Math.max.code 2) ∨ (q.2.2.1 = 7001 ∧ xmw xTs (xR q.1) q.2.1 Lib.Math.min.name Lib.Math.min.code 2) ∨ (q.2.2.1 = 7002 ∧ xmw xTs (xR q.1) q.2.1 Lib.Math.abs.name Lib.Math.abs.code 1) ∨ (q.2.2.1 < 7000 ∧ ∃ N : XM, MT q.2.2.1 = some N ∧ (Cond.methodLink (xR q.1) q.2.1 (xm_y N) ∈ xTs ∨ ∃ h, (xR q.1, q.2.1, xm_y N, h) ∈ NW) ∧ Cond.static (xm_y N) ∈ xTs ∧ Cond.initialized (xm_y N).cls ∈ xTs ∧ Cond.code (xm_y N) (xm_c N) (xm_l N) (xm_r N) ∈ xTs ∧ ((xm_y N).cls ≠ "java/lang/invoke/MethodHandle" ∧ (xm_y N).cls ≠ "java/lang/invoke/VarHandle" ∧ (parseMethodDescriptor (xm_y N).desc).map (fun d => d.parameters.length) = some q.2.2.2.1))
def xP_MI (q : Nat × Nat × Nat × Nat × Int) : Prop := ∃ N : XM, MT q.2.2.1 = some N ∧ (Cond.methodLink (xR q.1) q.2.1 (xm_y N) ∈ xTs ∨ ∃ h, (xR q.1, q.2.1, xm_y N, h) ∈ NW) ∧ Cond.instanceMethod (xm_y N) ∈ xTs ∧ Cond.initialized (xm_y N).cls ∈ xTs ∧ Cond.code (xm_y N) (xm_c N) (xm_l N) (xm_r N) ∈ xTs ∧ ((xm_y N).cls ≠ "java/lang/invoke/MethodHandle" ∧ (xm_y N).cls ≠ "java/lang/invoke/VarHandle" ∧ (parseMethodDescriptor (xm_y N).desc).map (fun d => d.parameters.length) = some (q.2.2.2.1 - 1)) ∧ (xm_y N).name = "<init>" ∧ xm_r N = none
def xP_OI (q : Nat × Nat × Nat × Nat × Int) : Prop := Cond.methodLink (xR q.1) q.2.1 Lib.objectInit ∈ xTs
def xP_CL (q : Nat × Nat × Nat × Nat × Int) : Prop := ∃ (C : String) (T : u_T) (N : Nat) (ty : Nat → FieldType) (fs : List XV) (fv : List Value), xclo cl xTs q.2.2.1 C T N ty ∧ FD q.2.2.1 = some fs ∧ fs.length = N ∧ (∀ as ex : List Nat, xl_in as ex fs fv) ∧ (∀ j, j < N → defaultValue (ty j) = vp_V fv j) ∧ Cond.classLink (xR q.1) q.2.1 C ∈ xTs ∧ Cond.instantiable C N ∈ xTs ∧ Cond.initialized C ∈ xTs
def xP_AL (q : Nat × Nat × Nat × Nat × Int) : Prop := 3 ≤ q.2.2.1 ∧ q.2.2.1 < 7 ∧ ∃ C, TY q.2.2.1 = some (.object C) ∧ Cond.classLink (xR q.1) q.2.1 C ∈ xTs ∧ C ∈ xAO
def xP_KI (q : Nat × Nat × Nat × Nat × Int) : Prop := ∃ v : Int32, Cond.constant (xR q.1) q.2.1 v ∈ xTs ∧ v.toInt = q.2.2.2.2
def xP_KL (q : Nat × Nat × Nat × Nat × Int) : Prop := ∃ v : Int64, Cond.constantLong (xR q.1) q.2.1 v ∈ xTs ∧ v.toInt = q.2.2.2.2
def xP_GS (q : Nat × Nat × Nat × Nat × Int) : Prop := ∃ C n d, (C, n, d, q.2.2.1) ∈ SV ∧ (Cond.fieldLink (xR q.1) q.2.1 C n d ∈ xTs ∨ ∃ h, (xR q.1, q.2.1, C, n, d, h) ∈ NF)
end XB
section XB2
variable {cl : List vw_C} {MT : Nat → Option XM} {FT : Nat → Nat → Option FieldType} {FD : Nat → Option (List XV)} {TY : Nat → Option FieldType} {SV : List (String × String × String × Nat)} {NW : List (String × Nat × MethodName × String)} {NF : List (String × Nat × String × String × String × String)} {xR : Nat → String} {fin : Nat → Nat → Bool} {FL MV MS MI OI CL AL KI KL GS : List (Nat × Nat × Nat × Nat × Int)}
theorem x_dec {cc : ByteArray} {pc : Nat} {i : Instr} {n : Nat} (h : (match decode cc pc with
    | .ok q => decide (q = (i, n))
    | _ => false) = true) : decode cc pc = .ok (i, n) := by
  cases hd : decode cc pc with
  | error e => rw [hd] at h; cases h
  | ok q =>
    rw [hd] at h
    rw [of_decide_eq_true h]
theorem x_decT {cc : ByteArray} {pc : Nat} {i : Instr} (h : (match decode cc pc with
    | .ok q => decide (q.1 = i)
    | _ => false) = true) : ∃ n, decode cc pc = .ok (i, n) := by
  cases hd : decode cc pc with
  | error e => rw [hd] at h; cases h
  | ok q =>
    rw [hd] at h
    have h := of_decide_eq_true h
    subst h
    exact ⟨q.2, rfl⟩
theorem x_cont {L : List (Nat × Nat × Nat × Nat × Int)} {q : Nat × Nat × Nat × Nat × Int} (h : L.contains q = true) : q ∈ L := by simpa using h
set_option maxHeartbeats 4000000 in
theorem xokb_ok {M : XM} {pc a b : Nat} {z : Int} {i : Instr} (hR : xR (xm_i M) = (xm_y M).cls) (hTY : TY 0 = some .int ∧ TY 1 = some .long ∧ TY 2 = some .boolean) (hac : Cond.arrayClass .int ∈ xTs ∧ Cond.arrayClass .long ∈ xTs ∧ Cond.arrayClass .boolean ∈ xTs) (hoi : Cond.instanceMethod Lib.objectInit ∈ xTs ∧ Cond.code Lib.objectInit ⟨#[0xb1]⟩ 1 none ∈ xTs)
    (hFL : ∀ q ∈ FL, xP_FL cl FT xR fin q) (hMV : ∀ q ∈ MV, xP_MV cl MT xR q) (hMS : ∀ q ∈ MS, xP_MS MT NW xR q) (hMI : ∀ q ∈ MI, xP_MI MT NW xR q) (hOI : ∀ q ∈ OI, xP_OI xR q) (hCL : ∀ q ∈ CL, xP_CL cl FD xR q) (hAL : ∀ q ∈ AL, xP_AL TY xR q) (hKI : ∀ q ∈ KI, xP_KI xR q) (hKL : ∀ q ∈ KL, xP_KL xR q) (hGS : ∀ q ∈ GS, xP_GS SV NF xR q)
    (h : xokb fin FL MV MS MI OI CL AL KI KL GS M pc a b z i = true) : xdec (xm_c M) pc i ∧ xaux cl xTs MT FT FD TY SV NW NF M pc a b z i := by
  unfold xokb at h
  rw [Bool.and_eq_true] at h
  obtain ⟨h1, h2⟩ := h
  cases i with
  | tableswitch d lo hi o => exact ⟨x_decT h1, trivial⟩
  | iconst v => exact ⟨x_dec h1, of_decide_eq_true (p := (Int32.ofInt v).toInt = z) h2⟩
  | bipush v => exact ⟨x_dec h1, of_decide_eq_true (p := ((Int8.ofInt v).toInt32).toInt = z) h2⟩
  | sipush v => exact ⟨x_dec h1, of_decide_eq_true (p := ((Int16.ofInt v).toInt32).toInt = z) h2⟩
  | lconst v => exact ⟨x_dec h1, of_decide_eq_true (p := (Int64.ofNat (v : Nat)).toInt = z) h2⟩
  | iinc j g => exact ⟨x_dec h1, of_decide_eq_true (p := (Int32.ofInt g).toInt = z) h2⟩
  | ifCond q o => exact ⟨x_dec h1, of_decide_eq_true (p := (pc : Int) + o = (a : Int)) h2⟩
  | if_icmp q o => exact ⟨x_dec h1, of_decide_eq_true (p := (pc : Int) + o = (a : Int)) h2⟩
  | ifnull o => exact ⟨x_dec h1, of_decide_eq_true (p := (pc : Int) + o = (a : Int)) h2⟩
  | ifnonnull o => exact ⟨x_dec h1, of_decide_eq_true (p := (pc : Int) + o = (a : Int)) h2⟩
  | goto o => exact ⟨x_dec h1, of_decide_eq_true (p := (pc : Int) + o = (a : Int)) h2⟩
  | ldc j =>
    obtain ⟨v, o1, o2⟩ := hKI _ (x_cont h2)
    exact ⟨x_dec h1, v, by rw [← hR]; exact o1, o2⟩
  | ldc_w j =>
    obtain ⟨v, o1, o2⟩ := hKI _ (x_cont h2)
    exact ⟨x_dec h1, v, by rw [← hR]; exact o1, o2⟩
  | ldc2_w j =>
    obtain ⟨v, o1, o2⟩ := hKL _ (x_cont h2)
    exact ⟨x_dec h1, v, by rw [← hR]; exact o1, o2⟩
  | newarray t =>
    have h2 := of_decide_eq_true (p := (t = .int ∧ a = 0) ∨ (t = .long ∧ a = 1) ∨ (t = .boolean ∧ a = 2)) h2
    refine ⟨x_dec h1, h2, ?_, ?_⟩
    · rcases h2 with ⟨rfl, rfl⟩ | ⟨rfl, rfl⟩ | ⟨rfl, rfl⟩
      · exact hTY.1
      · exact hTY.2.1
      · exact hTY.2.2
    · rcases h2 with ⟨rfl, rfl⟩ | ⟨rfl, rfl⟩ | ⟨rfl, rfl⟩
      · exact hac.1
      · exact hac.2.1
      · exact hac.2.2
  | anewarray j =>
    obtain ⟨o1, o2, C, o3, o4, o5⟩ := hAL _ (x_cont h2)
    exact ⟨x_dec h1, o1, o2, C, o3, by rw [← hR]; exact o4, o5⟩
  | new j =>
    obtain ⟨C, T, N, ty, fs, fv, o1, o2, o3, o4, o5, o6, o7, o8⟩ := hCL _ (x_cont h2)
    exact ⟨x_dec h1, C, T, N, ty, fs, fv, o1, o2, o3, o4, o5, by rw [← hR]; exact o6, o7, o8⟩
  | getfield j =>
    obtain ⟨C, T, N, ty, o1, o2, o3, o4, o5, o6⟩ := hFL _ (x_cont h2)
    exact ⟨x_dec h1, C, T, N, ty, o1, o2, by rw [← hR]; exact o3⟩
  | putfield j =>
    rw [Bool.and_eq_true] at h2
    obtain ⟨C, T, N, ty, o1, o2, o3, o4, o5, o6⟩ := hFL _ (x_cont h2.1)
    refine ⟨x_dec h1, C, T, N, ty, o1, o2, by rw [← hR]; exact o3, o4, ?_⟩
    have h3 := h2.2
    rw [Bool.or_eq_true, Bool.not_eq_true', Bool.and_eq_true] at h3
    rcases h3 with h3 | ⟨h3, h4⟩
    · exact Or.inl (o5.trans h3)
    · have h4 : xm_i M = a := by simpa using h4
      cases hf : (T b).2.2.2 with
      | false => exact Or.inl rfl
      | true => exact Or.inr ⟨rfl, of_decide_eq_true h3, by rw [← hR, h4]; exact o6⟩
  | getstatic j =>
    obtain ⟨C, n, d, o1, o2⟩ := hGS _ (x_cont h2)
    exact ⟨x_dec h1, C, n, d, o1, by rw [← hR]; exact o2⟩
  | invokevirtual j =>
    obtain ⟨N, C, o1, o2, o3⟩ := hMV _ (x_cont h2)
    exact ⟨x_dec h1, N, C, o1, by rw [← hR]; exact o2, o3⟩
  | invokestatic j =>
    have hm := hMS _ (x_cont h2)
    refine ⟨x_dec h1, ?_⟩
    unfold xP_MS at hm
    rw [hR] at hm
    exact hm
  | invokespecial j =>
    refine ⟨x_dec h1, ?_⟩
    have h2 : (if a = 9999 then OI.contains (xm_i M, j, 0, 0, 0) else MI.contains (xm_i M, j, a, b, 0)) = true := h2
    by_cases ha : a = 9999
    · rw [if_pos ha] at h2
      have o1 : Cond.methodLink (xR (xm_i M)) j Lib.objectInit ∈ xTs := hOI _ (x_cont h2)
      exact Or.inl ⟨ha, by rw [← hR]; exact o1, hoi.1, hoi.2⟩
    · rw [if_neg ha] at h2
      obtain ⟨N, o1, o2, o3⟩ := hMI _ (x_cont h2)
      exact Or.inr ⟨ha, N, o1, by rw [← hR]; exact o2, o3⟩
  | ireturn => exact ⟨x_dec h1, of_decide_eq_true (p := xm_r M = some .int ∨ xm_r M = some .boolean) h2⟩
  | lreturn => exact ⟨x_dec h1, of_decide_eq_true (p := xm_r M = some .long) h2⟩
  | areturn =>
    refine ⟨x_dec h1, ?_⟩
    show ∃ C, xm_r M = some (.object C)
    have h2 : (match xm_r M with
      | some (.object _) => true
      | _ => false) = true := h2
    cases hr : xm_r M with
    | none => rw [hr] at h2; cases h2
    | some t =>
      rw [hr] at h2
      cases t <;> first | exact ⟨_, rfl⟩ | cases h2
  | return_ => exact ⟨x_dec h1, of_decide_eq_true (p := xm_r M = none) h2⟩
  | _ => exact ⟨x_dec h1, trivial⟩
/-- a method's whole table -/
def xtabb (fin : Nat → Nat → Bool) (FL MV MS MI OI CL AL KI KL GS : List (Nat × Nat × Nat × Nat × Int)) (M : XM) : Bool := (List.range (16 * (xm_t M).length)).all (fun pc => match xfetch (xm_t M) pc with
  | none => true
  | some q => xokb fin FL MV MS MI OI CL AL KI KL GS M pc q.2.1 q.2.2.1 q.2.2.2 q.1)
theorem x_fetch_lt {t : List (List (Option XE))} {pc : Nat} {q : XE} (h : xfetch t pc = some q) : pc < 16 * t.length := by
  unfold xfetch at h
  cases hr : t[pc / 16]? with
  | none => rw [hr] at h; cases h
  | some r =>
    have := (List.getElem?_eq_some_iff.mp hr).1
    omega
theorem xtabb_ok {M : XM} (h : xtabb fin FL MV MS MI OI CL AL KI KL GS M = true) {pc : Nat} {q : XE} (hq : xfetch (xm_t M) pc = some q) : xokb fin FL MV MS MI OI CL AL KI KL GS M pc q.2.1 q.2.2.1 q.2.2.2 q.1 = true := by
  have h1 := List.all_eq_true.mp h pc (List.mem_range.mpr (x_fetch_lt hq))
  rw [hq] at h1
  exact h1
end XB2
end
section
/-! ===== words of the tables, by their places ===== -/
theorem xi_1 {w : Cond} (i : Nat) (h : tables_1_1[i]? = some w) (hg : goodWord w = true) : w ∈ xTs := List.mem_filter.mpr ⟨(by have h := List.mem_of_getElem? h; exact List.mem_append_right _ (List.mem_append_left _ h)), hg⟩
theorem xi_2 {w : Cond} (i : Nat) (h : tables_1_2[i]? = some w) (hg : goodWord w = true) : w ∈ xTs := List.mem_filter.mpr ⟨(by have h := List.mem_of_getElem? h; exact List.mem_append_right _ (List.mem_append_right _ (List.mem_append_left _ h))), hg⟩
theorem xi_3 {w : Cond} (i : Nat) (h : tables_1_3[i]? = some w) (hg : goodWord w = true) : w ∈ xTs := List.mem_filter.mpr ⟨(by have h := List.mem_of_getElem? h; exact List.mem_append_right _ (List.mem_append_right _ (List.mem_append_right _ (List.mem_append_left _ h)))), hg⟩
theorem xi_4 {w : Cond} (i : Nat) (h : tables_1_4[i]? = some w) (hg : goodWord w = true) : w ∈ xTs := List.mem_filter.mpr ⟨(by have h := List.mem_of_getElem? h; exact List.mem_append_right _ (List.mem_append_right _ (List.mem_append_right _ (List.mem_append_right _ (List.mem_append_left _ h))))), hg⟩
theorem xi_5 {w : Cond} (i : Nat) (h : tables_1_5[i]? = some w) (hg : goodWord w = true) : w ∈ xTs := List.mem_filter.mpr ⟨(by have h := List.mem_of_getElem? h; exact List.mem_append_right _ (List.mem_append_right _ (List.mem_append_right _ (List.mem_append_right _ (List.mem_append_right _ (List.mem_append_left _ h)))))), hg⟩
theorem xi_6 {w : Cond} (i : Nat) (h : tables_1_6[i]? = some w) (hg : goodWord w = true) : w ∈ xTs := List.mem_filter.mpr ⟨(by have h := List.mem_of_getElem? h; exact List.mem_append_right _ (List.mem_append_right _ (List.mem_append_right _ (List.mem_append_right _ (List.mem_append_right _ (List.mem_append_right _ (List.mem_append_left _ h))))))), hg⟩
theorem xi_7 {w : Cond} (i : Nat) (h : tables_1_7[i]? = some w) (hg : goodWord w = true) : w ∈ xTs := List.mem_filter.mpr ⟨(by have h := List.mem_of_getElem? h; exact List.mem_append_right _ (List.mem_append_right _ (List.mem_append_right _ (List.mem_append_right _ (List.mem_append_right _ (List.mem_append_right _ (List.mem_append_right _ (h)))))))), hg⟩
theorem xi_0 {w : Cond} (i : Nat) (h : (k2_sels lw_privs)[i]? = some w) (hg : goodWord w = true) : w ∈ xTs := List.mem_filter.mpr ⟨List.mem_append_left _ (List.mem_of_getElem? h), hg⟩
theorem xw_0 : Cond.methodLink RX9 3 Lib.objectInit ∈ xTs := xi_1 21 rfl rfl
theorem xw_1 : Cond.classLink RX9 9 "IceBoats$Row" ∈ xTs := xi_1 24 rfl rfl
theorem xw_2 : Cond.fieldLink RX9 11 "IceBoats" "rows" "[LIceBoats$Row;" ∈ xTs := xi_1 207 rfl rfl
theorem xw_3 : Cond.fieldLink RX9 15 "IceBoats" "texts" "[LIceBoats$Row;" ∈ xTs := xi_1 208 rfl rfl
theorem xw_4 : Cond.classLink RX9 18 RX6 ∈ xTs := xi_1 26 rfl rfl
theorem xw_5 : Cond.instantiable RX6 8 ∈ xTs := xi_1 27 rfl rfl
theorem xw_6 : Cond.initialized RX6 ∈ xTs := xi_1 2 rfl rfl
theorem xw_7 : Cond.methodLink RX9 20 yX6_init ∈ xTs := xi_1 28 rfl rfl
theorem xw_8 : Cond.instanceMethod yX6_init ∈ xTs := xi_1 29 rfl rfl
theorem xw_9 : Cond.code yX6_init cX6_init 2 none ∈ xTs := xi_1 30 rfl rfl
theorem xw_10 : Cond.fieldLink RX9 21 "IceBoats" "waters" "LIceBoats$Sea;" ∈ xTs := xi_1 209 rfl rfl
theorem xw_11 : Cond.classLink RX9 25 "IceBoats$Boat" ∈ xTs := xi_1 79 rfl rfl
theorem xw_12 : Cond.fieldLink RX9 27 "IceBoats" "fleet" "[LIceBoats$Boat;" ∈ xTs := xi_1 210 rfl rfl
theorem xw_13 : Cond.classLink RX9 31 "IceBoats$Word" ∈ xTs := xi_1 81 rfl rfl
theorem xw_14 : Cond.fieldLink RX9 33 "IceBoats" "words" "[LIceBoats$Word;" ∈ xTs := xi_1 211 rfl rfl
theorem xw_15 : Cond.classLink RX9 37 "IceBoats$Look" ∈ xTs := xi_1 83 rfl rfl
theorem xw_16 : Cond.fieldLink RX9 39 "IceBoats" "looks" "[LIceBoats$Look;" ∈ xTs := xi_1 212 rfl rfl
theorem xw_17 : Cond.classLink RX9 43 RX5 ∈ xTs := xi_1 85 rfl rfl
theorem xw_18 : Cond.instantiable RX5 1 ∈ xTs := xi_1 86 rfl rfl
theorem xw_19 : Cond.initialized RX5 ∈ xTs := xi_1 4 rfl rfl
theorem xw_20 : Cond.instanceMethod yX5_init ∈ xTs := xi_1 88 rfl rfl
theorem xw_21 : Cond.code yX5_init cX5_init 1 none ∈ xTs := xi_1 89 rfl rfl
theorem xw_22 : Cond.fieldLink RX9 46 "IceBoats" "reader" "LIceBoats$RuleReader;" ∈ xTs := xi_1 213 rfl rfl
theorem xw_23 : Cond.classLink RX9 50 RX3 ∈ xTs := xi_1 96 rfl rfl
theorem xw_24 : Cond.instantiable RX3 4 ∈ xTs := xi_1 97 rfl rfl
theorem xw_25 : Cond.initialized RX3 ∈ xTs := xi_1 5 rfl rfl
theorem xw_26 : Cond.instanceMethod yX3_init ∈ xTs := xi_1 99 rfl rfl
theorem xw_27 : Cond.code yX3_init cX3_init 1 none ∈ xTs := xi_1 100 rfl rfl
theorem xw_28 : Cond.fieldLink RX9 53 "IceBoats" "planner" "LIceBoats$Planner;" ∈ xTs := xi_1 214 rfl rfl
theorem xw_29 : Cond.classLink RX9 57 RX1 ∈ xTs := xi_1 118 rfl rfl
theorem xw_30 : Cond.instantiable RX1 4 ∈ xTs := xi_1 119 rfl rfl
theorem xw_31 : Cond.initialized RX1 ∈ xTs := xi_1 6 rfl rfl
theorem xw_32 : Cond.instanceMethod yX1_init ∈ xTs := xi_1 121 rfl rfl
theorem xw_33 : Cond.code yX1_init cX1_init 1 none ∈ xTs := xi_1 122 rfl rfl
theorem xw_34 : Cond.fieldLink RX9 60 "IceBoats" "drift" "LIceBoats$Drift;" ∈ xTs := xi_1 215 rfl rfl
theorem xw_35 : Cond.fieldLink RX9 64 "IceBoats" "findingCounts" "[I" ∈ xTs := xi_1 216 rfl rfl
theorem xw_36 : Cond.fieldLink RX9 68 "IceBoats" "lots" "I" ∈ xTs := xi_1 220 rfl rfl
theorem xw_37 : Cond.fieldLink RX9 72 "IceBoats" "lastLower" "J" ∈ xTs := xi_1 225 rfl rfl
theorem xw_38 : Cond.classLink RX9 9 RX4 ∈ xTs := xi_1 24 rfl rfl
theorem xw_39 : Cond.instantiable RX4 2 ∈ xTs := xi_1 138 rfl rfl
theorem xw_40 : Cond.initialized RX4 ∈ xTs := xi_1 7 rfl rfl
theorem xw_41 : Cond.instanceMethod yX4_init ∈ xTs := xi_1 140 rfl rfl
theorem xw_42 : Cond.code yX4_init cX4_init 1 none ∈ xTs := xi_1 141 rfl rfl
theorem xw_43 : Cond.classLink RX9 25 RX0 ∈ xTs := xi_1 79 rfl rfl
theorem xw_44 : Cond.instantiable RX0 12 ∈ xTs := xi_1 156 rfl rfl
theorem xw_45 : Cond.initialized RX0 ∈ xTs := xi_1 8 rfl rfl
theorem xw_46 : Cond.instanceMethod yX0_init ∈ xTs := xi_1 158 rfl rfl
theorem xw_47 : Cond.code yX0_init cX0_init 1 none ∈ xTs := xi_1 159 rfl rfl
theorem xw_48 : Cond.methodLink RX6 3 Lib.objectInit ∈ xTs := xi_1 31 rfl rfl
theorem xw_49 : Cond.fieldLink RX6 9 "IceBoats$Sea" "current" "[I" ∈ xTs := xi_1 49 rfl rfl
theorem xw_50 : Cond.fieldLink RX6 15 "IceBoats$Sea" "warmth" "[I" ∈ xTs := xi_1 51 rfl rfl
theorem xw_51 : Cond.fieldLink RX6 18 "IceBoats$Sea" "ice" "[I" ∈ xTs := xi_1 52 rfl rfl
theorem xw_52 : Cond.fieldLink RX6 21 "IceBoats$Sea" "chart" "[I" ∈ xTs := xi_1 54 rfl rfl
theorem xw_53 : Cond.fieldLink RX6 24 "IceBoats$Sea" "cellsOfWarmth" "[J" ∈ xTs := xi_1 56 rfl rfl
theorem xw_54 : Cond.classLink RX6 28 RX7 ∈ xTs := xi_1 32 rfl rfl
theorem xw_55 : Cond.instantiable RX7 2 ∈ xTs := xi_1 33 rfl rfl
theorem xw_56 : Cond.initialized RX7 ∈ xTs := xi_1 3 rfl rfl
theorem xw_57 : Cond.instanceMethod yX7_init ∈ xTs := xi_1 35 rfl rfl
theorem xw_58 : Cond.code yX7_init cX7_init 1 none ∈ xTs := xi_1 36 rfl rfl
theorem xw_59 : Cond.fieldLink RX6 31 "IceBoats$Sea" "wave" "LIceBoats$Wave;" ∈ xTs := xi_1 58 rfl rfl
theorem xw_60 : Cond.constantLong RX6 35 (-1) ∈ xTs := xi_1 48 rfl rfl
theorem xw_61 : Cond.methodLink RX7 3 Lib.objectInit ∈ xTs := xi_1 37 rfl rfl
theorem xw_62 : Cond.fieldLink RX7 9 "IceBoats$Wave" "fronts" "[J" ∈ xTs := xi_1 38 rfl rfl
theorem xw_63 : Cond.methodLink RX5 3 Lib.objectInit ∈ xTs := xi_1 90 rfl rfl
theorem xw_64 : Cond.fieldLink RX5 9 "IceBoats$RuleReader" "numbers" "[I" ∈ xTs := xi_1 91 rfl rfl
theorem xw_65 : Cond.methodLink RX3 3 Lib.objectInit ∈ xTs := xi_1 101 rfl rfl
theorem xw_66 : Cond.fieldLink RX3 9 "IceBoats$Planner" "cells" "[J" ∈ xTs := xi_1 102 rfl rfl
theorem xw_67 : Cond.fieldLink RX3 15 "IceBoats$Planner" "offered" "[Z" ∈ xTs := xi_1 103 rfl rfl
theorem xw_68 : Cond.methodLink RX1 5 Lib.objectInit ∈ xTs := xi_1 123 rfl rfl
theorem xw_69 : Cond.fieldLink RX1 11 "IceBoats$Drift" "weights" "[I" ∈ xTs := xi_1 124 rfl rfl
theorem xw_70 : Cond.fieldLink RX1 15 "IceBoats$Drift" "oddness" "[I" ∈ xTs := xi_1 126 rfl rfl
theorem xw_71 : Cond.fieldLink RX1 18 "IceBoats$Drift" "nextWeights" "[I" ∈ xTs := xi_1 127 rfl rfl
theorem xw_72 : Cond.fieldLink RX1 21 "IceBoats$Drift" "nextOddness" "[I" ∈ xTs := xi_1 128 rfl rfl
theorem xw_73 : Cond.methodLink RX4 3 Lib.objectInit ∈ xTs := xi_1 142 rfl rfl
theorem xw_74 : Cond.fieldLink RX4 9 "IceBoats$Row" "places" "[I" ∈ xTs := xi_1 143 rfl rfl
theorem xw_75 : Cond.fieldLink RX4 15 "IceBoats$Row" "size" "I" ∈ xTs := xi_1 147 rfl rfl
theorem xw_76 : Cond.methodLink RX0 3 Lib.objectInit ∈ xTs := xi_1 160 rfl rfl
theorem xw_77 : Cond.fieldLink RX0 9 "IceBoats$Boat" "rules" "[I" ∈ xTs := xi_1 161 rfl rfl
theorem xw_78 : Cond.fieldLink RX0 15 "IceBoats$Boat" "power" "I" ∈ xTs := xi_1 167 rfl rfl
theorem xw_79 : Cond.fieldLink RX0 19 "IceBoats$Boat" "could" "J" ∈ xTs := xi_1 169 rfl rfl
theorem xw_80 : Cond.fieldLink RX0 23 "IceBoats$Boat" "way" "I" ∈ xTs := xi_1 171 rfl rfl
theorem xw_81 : Cond.fieldLink RX0 26 "IceBoats$Boat" "lastSpoke" "I" ∈ xTs := xi_1 175 rfl rfl
theorem xw_82 : Cond.methodLink RX9 78 yX9_rowAt ∈ xTs := xi_2 29 rfl rfl
theorem xw_83 : Cond.instanceMethod yX9_rowAt ∈ xTs := xi_2 31 rfl rfl
theorem xw_84 : Cond.selects RX9 yX9_rowAt yX9_rowAt ∈ xTs := xi_0 0 rfl rfl
theorem xw_85 : Cond.initialized RX9 ∈ xTs := xi_1 1 rfl rfl
theorem xw_86 : Cond.code yX9_rowAt cX9_rowAt 2 (some (.object "IceBoats$Row")) ∈ xTs := xi_2 32 rfl rfl
theorem xw_87 : Cond.methodLink RX9 82 yX9_found ∈ xTs := xi_2 33 rfl rfl
theorem xw_88 : Cond.instanceMethod yX9_found ∈ xTs := xi_2 35 rfl rfl
theorem xw_89 : Cond.selects RX9 yX9_found yX9_found ∈ xTs := xi_0 1 rfl rfl
theorem xw_90 : Cond.code yX9_found cX9_found 2 (some .int) ∈ xTs := xi_2 36 rfl rfl
theorem xw_91 : Cond.methodLink RX9 86 yX4_beAnew ∈ xTs := xi_2 37 rfl rfl
theorem xw_92 : Cond.instanceMethod yX4_beAnew ∈ xTs := xi_2 38 rfl rfl
theorem xw_93 : Cond.selects RX4 yX4_beAnew yX4_beAnew ∈ xTs := xi_2 39 rfl rfl
theorem xw_94 : Cond.code yX4_beAnew cX4_beAnew 4 none ∈ xTs := xi_2 40 rfl rfl
theorem xw_95 : Cond.fieldLink RX9 444 "IceBoats" "lastFinding" "I" ∈ xTs := xi_1 221 rfl rfl
theorem xw_96 : Cond.methodLink RX9 90 yX4_isMissing ∈ xTs := xi_2 45 rfl rfl
theorem xw_97 : Cond.instanceMethod yX4_isMissing ∈ xTs := xi_2 46 rfl rfl
theorem xw_98 : Cond.selects RX4 yX4_isMissing yX4_isMissing ∈ xTs := xi_2 47 rfl rfl
theorem xw_99 : Cond.code yX4_isMissing cX4_isMissing 1 (some .boolean) ∈ xTs := xi_2 48 rfl rfl
theorem xw_100 : Cond.methodLink RX9 94 yX4_holds ∈ xTs := xi_2 49 rfl rfl
theorem xw_101 : Cond.instanceMethod yX4_holds ∈ xTs := xi_2 50 rfl rfl
theorem xw_102 : Cond.selects RX4 yX4_holds yX4_holds ∈ xTs := xi_2 51 rfl rfl
theorem xw_103 : Cond.code yX4_holds cX4_holds 3 (some .boolean) ∈ xTs := xi_2 52 rfl rfl
theorem xw_104 : Cond.fieldLink RX9 98 "IceBoats$Row" "places" "[I" ∈ xTs := xi_1 145 rfl rfl
theorem xw_105 : Cond.methodLink RX9 101 yX9_tellAsked ∈ xTs := xi_2 53 rfl rfl
theorem xw_106 : Cond.instanceMethod yX9_tellAsked ∈ xTs := xi_2 55 rfl rfl
theorem xw_107 : Cond.selects RX9 yX9_tellAsked yX9_tellAsked ∈ xTs := xi_0 2 rfl rfl
theorem xw_108 : Cond.code yX9_tellAsked cX9_tellAsked 2 (some .int) ∈ xTs := xi_2 56 rfl rfl
theorem xw_109 : Cond.fieldLink RX9 364 "IceBoats" "lastAsked" "I" ∈ xTs := xi_1 222 rfl rfl
theorem xw_110 : Cond.fieldLink RX9 104 "IceBoats$Row" "size" "I" ∈ xTs := xi_1 149 rfl rfl
theorem xw_111 : Cond.methodLink RX9 113 yX9_textAt ∈ xTs := xi_2 76 rfl rfl
theorem xw_112 : Cond.instanceMethod yX9_textAt ∈ xTs := xi_2 78 rfl rfl
theorem xw_113 : Cond.selects RX9 yX9_textAt yX9_textAt ∈ xTs := xi_0 3 rfl rfl
theorem xw_114 : Cond.code yX9_textAt cX9_textAt 2 (some (.object "IceBoats$Row")) ∈ xTs := xi_2 79 rfl rfl
theorem xw_115 : Cond.methodLink RX9 116 yX9_isCell ∈ xTs := xi_2 88 rfl rfl
theorem xw_116 : Cond.static yX9_isCell ∈ xTs := xi_2 89 rfl rfl
theorem xw_117 : Cond.code yX9_isCell cX9_isCell 1 (some .boolean) ∈ xTs := xi_2 90 rfl rfl
theorem xw_118 : Cond.fieldLink RX9 120 "IceBoats$Sea" "hole" "I" ∈ xTs := xi_1 61 rfl rfl
theorem xw_119 : Cond.methodLink RX9 123 yX9_boatLiesIn ∈ xTs := xi_2 91 rfl rfl
theorem xw_120 : Cond.instanceMethod yX9_boatLiesIn ∈ xTs := xi_2 93 rfl rfl
theorem xw_121 : Cond.selects RX9 yX9_boatLiesIn yX9_boatLiesIn ∈ xTs := xi_0 4 rfl rfl
theorem xw_122 : Cond.code yX9_boatLiesIn cX9_boatLiesIn 3 (some .boolean) ∈ xTs := xi_2 94 rfl rfl
theorem xw_123 : Cond.methodLink RX9 126 yX6_isRock ∈ xTs := xi_2 95 rfl rfl
theorem xw_124 : Cond.instanceMethod yX6_isRock ∈ xTs := xi_2 96 rfl rfl
theorem xw_125 : Cond.selects RX6 yX6_isRock yX6_isRock ∈ xTs := xi_2 97 rfl rfl
theorem xw_126 : Cond.code yX6_isRock cX6_isRock 2 (some .boolean) ∈ xTs := xi_2 98 rfl rfl
theorem xw_127 : Cond.methodLink RX9 129 yX6_becomeRock ∈ xTs := xi_2 102 rfl rfl
theorem xw_128 : Cond.instanceMethod yX6_becomeRock ∈ xTs := xi_2 103 rfl rfl
theorem xw_129 : Cond.selects RX6 yX6_becomeRock yX6_becomeRock ∈ xTs := xi_2 104 rfl rfl
theorem xw_130 : Cond.code yX6_becomeRock cX6_becomeRock 3 none ∈ xTs := xi_2 105 rfl rfl
theorem xw_131 : Cond.fieldLink RX9 218 "IceBoats$Boat" "cell" "I" ∈ xTs := xi_1 166 rfl rfl
theorem xw_132 : Cond.fieldLink RX6 37 "IceBoats$Sea" "rocks" "J" ∈ xTs := xi_1 59 rfl rfl
theorem xw_133 : Cond.static yX9_hasBit ∈ xTs := xi_2 100 rfl rfl
theorem xw_134 : Cond.code yX9_hasBit cX9_hasBit 3 (some .boolean) ∈ xTs := xi_2 101 rfl rfl
theorem xw_135 : Cond.methodLink RX9 133 yX9_isWay ∈ xTs := xi_2 110 rfl rfl
theorem xw_136 : Cond.static yX9_isWay ∈ xTs := xi_2 111 rfl rfl
theorem xw_137 : Cond.code yX9_isWay cX9_isWay 1 (some .boolean) ∈ xTs := xi_2 112 rfl rfl
theorem xw_138 : Cond.methodLink RX9 136 yX9_isIce ∈ xTs := xi_2 113 rfl rfl
theorem xw_139 : Cond.static yX9_isIce ∈ xTs := xi_2 114 rfl rfl
theorem xw_140 : Cond.code yX9_isIce cX9_isIce 1 (some .boolean) ∈ xTs := xi_2 115 rfl rfl
theorem xw_141 : Cond.fieldLink RX9 139 "IceBoats$Sea" "current" "[I" ∈ xTs := xi_1 50 rfl rfl
theorem xw_142 : Cond.methodLink RX9 142 yX6_becomeWarm ∈ xTs := xi_2 116 rfl rfl
theorem xw_143 : Cond.instanceMethod yX6_becomeWarm ∈ xTs := xi_2 117 rfl rfl
theorem xw_144 : Cond.selects RX6 yX6_becomeWarm yX6_becomeWarm ∈ xTs := xi_2 118 rfl rfl
theorem xw_145 : Cond.code yX6_becomeWarm cX6_becomeWarm 3 none ∈ xTs := xi_2 119 rfl rfl
theorem xw_146 : Cond.fieldLink RX9 145 "IceBoats$Sea" "ice" "[I" ∈ xTs := xi_1 53 rfl rfl
theorem xw_147 : Cond.methodLink RX9 148 yX6_tellOf ∈ xTs := xi_2 124 rfl rfl
theorem xw_148 : Cond.instanceMethod yX6_tellOf ∈ xTs := xi_2 125 rfl rfl
theorem xw_149 : Cond.selects RX6 yX6_tellOf yX6_tellOf ∈ xTs := xi_2 126 rfl rfl
theorem xw_150 : Cond.code yX6_tellOf cX6_tellOf 3 (some .int) ∈ xTs := xi_2 127 rfl rfl
theorem xw_151 : Cond.methodLink RX6 45 yX6_isRock ∈ xTs := xi_2 128 rfl rfl
theorem xw_152 : Cond.fieldLink RX9 152 "IceBoats$Sea" "chart" "[I" ∈ xTs := xi_1 55 rfl rfl
theorem xw_153 : Cond.methodLink RX9 155 yX9_boatAt ∈ xTs := xi_2 145 rfl rfl
theorem xw_154 : Cond.instanceMethod yX9_boatAt ∈ xTs := xi_2 147 rfl rfl
theorem xw_155 : Cond.selects RX9 yX9_boatAt yX9_boatAt ∈ xTs := xi_0 5 rfl rfl
theorem xw_156 : Cond.code yX9_boatAt cX9_boatAt 2 (some (.object "IceBoats$Boat")) ∈ xTs := xi_2 148 rfl rfl
theorem xw_157 : Cond.fieldLink RX9 159 "IceBoats" "theTick" "I" ∈ xTs := xi_1 219 rfl rfl
theorem xw_158 : Cond.methodLink RX9 162 yX0_letDown ∈ xTs := xi_2 152 rfl rfl
theorem xw_159 : Cond.instanceMethod yX0_letDown ∈ xTs := xi_2 153 rfl rfl
theorem xw_160 : Cond.selects RX0 yX0_letDown yX0_letDown ∈ xTs := xi_2 154 rfl rfl
theorem xw_161 : Cond.code yX0_letDown cX0_letDown 5 none ∈ xTs := xi_2 155 rfl rfl
theorem xw_162 : Cond.methodLink RX9 305 yX9_isBoat ∈ xTs := xi_2 149 rfl rfl
theorem xw_163 : Cond.static yX9_isBoat ∈ xTs := xi_2 150 rfl rfl
theorem xw_164 : Cond.code yX9_isBoat cX9_isBoat 1 (some .boolean) ∈ xTs := xi_2 151 rfl rfl
theorem xw_165 : Cond.fieldLink RX0 29 "IceBoats$Boat" "kind" "I" ∈ xTs := xi_1 163 rfl rfl
theorem xw_166 : Cond.fieldLink RX0 32 "IceBoats$Boat" "cell" "I" ∈ xTs := xi_1 165 rfl rfl
theorem xw_167 : Cond.fieldLink RX0 35 "IceBoats$Boat" "lastHeard" "I" ∈ xTs := xi_1 173 rfl rfl
theorem xw_168 : Cond.fieldLink RX0 38 "IceBoats$Boat" "since" "I" ∈ xTs := xi_1 177 rfl rfl
theorem xw_169 : Cond.methodLink RX9 166 yX9_tellOfBoat ∈ xTs := xi_2 160 rfl rfl
theorem xw_170 : Cond.instanceMethod yX9_tellOfBoat ∈ xTs := xi_2 162 rfl rfl
theorem xw_171 : Cond.selects RX9 yX9_tellOfBoat yX9_tellOfBoat ∈ xTs := xi_0 6 rfl rfl
theorem xw_172 : Cond.code yX9_tellOfBoat cX9_tellOfBoat 4 (some .int) ∈ xTs := xi_2 163 rfl rfl
theorem xw_173 : Cond.fieldLink RX9 170 "IceBoats$Boat" "kind" "I" ∈ xTs := xi_1 164 rfl rfl
theorem xw_174 : Cond.fieldLink RX9 185 "IceBoats$Boat" "power" "I" ∈ xTs := xi_1 168 rfl rfl
theorem xw_175 : Cond.fieldLink RX9 191 "IceBoats$Boat" "could" "J" ∈ xTs := xi_1 170 rfl rfl
theorem xw_176 : Cond.methodLink RX9 246 (⟨"java/lang/Long", "bitCount", "(J)I"⟩ : MethodName) ∈ xTs := xi_2 164 rfl rfl
theorem xw_177 : Cond.static (⟨"java/lang/Long", "bitCount", "(J)I"⟩ : MethodName) ∈ xTs := xi_2 165 rfl rfl
theorem xw_178 : Cond.initialized "java/lang/Long" ∈ xTs := xi_1 11 rfl rfl
theorem xw_179 : Cond.code (⟨"java/lang/Long", "bitCount", "(J)I"⟩ : MethodName) prog_14_method_50_code 2 (some .int) ∈ xTs := xi_2 166 rfl rfl
theorem xw_180 : Cond.methodLink RX9 473 yX9_looksHeldBy ∈ xTs := xi_2 170 rfl rfl
theorem xw_181 : Cond.instanceMethod yX9_looksHeldBy ∈ xTs := xi_2 172 rfl rfl
theorem xw_182 : Cond.selects RX9 yX9_looksHeldBy yX9_looksHeldBy ∈ xTs := xi_0 7 rfl rfl
theorem xw_183 : Cond.code yX9_looksHeldBy cX9_looksHeldBy 4 (some .int) ∈ xTs := xi_2 173 rfl rfl
theorem xw_184 : Cond.fieldLink RX9 476 "IceBoats$Boat" "lastHeard" "I" ∈ xTs := xi_1 174 rfl rfl
theorem xw_185 : Cond.constantLong "java/lang/Long" 314 6148914691236517205 ∈ xTs := xi_2 167 rfl rfl
theorem xw_186 : Cond.constantLong "java/lang/Long" 316 3689348814741910323 ∈ xTs := xi_2 168 rfl rfl
theorem xw_187 : Cond.constantLong "java/lang/Long" 318 1085102592571150095 ∈ xTs := xi_2 169 rfl rfl
theorem xw_188 : Cond.fieldLink RX9 215 "IceBoats" "lookCount" "I" ∈ xTs := xi_1 218 rfl rfl
theorem xw_189 : Cond.fieldLink RX9 367 "IceBoats$Look" "holders" "I" ∈ xTs := xi_3 72 rfl rfl
theorem xw_190 : Cond.methodLink RX9 325 yX9_hasBit ∈ xTs := xi_2 174 rfl rfl
theorem xw_191 : Cond.fieldLink RX9 173 "IceBoats" "BOAT_KIND_ABOVE" "[I" ∈ xTs := xi_2 179 rfl rfl
theorem xw_192 : Cond.fieldLink RX9 176 "IceBoats$Boat" "looksMade" "I" ∈ xTs := xi_1 179 rfl rfl
theorem xw_193 : Cond.fieldLink RX9 179 "IceBoats$Boat" "wordsSaid" "I" ∈ xTs := xi_1 180 rfl rfl
theorem xw_194 : Cond.methodLink RX9 182 yX9_looksOnlyHeldBy ∈ xTs := xi_2 181 rfl rfl
theorem xw_195 : Cond.instanceMethod yX9_looksOnlyHeldBy ∈ xTs := xi_2 183 rfl rfl
theorem xw_196 : Cond.selects RX9 yX9_looksOnlyHeldBy yX9_looksOnlyHeldBy ∈ xTs := xi_0 8 rfl rfl
theorem xw_197 : Cond.code yX9_looksOnlyHeldBy cX9_looksOnlyHeldBy 4 (some .int) ∈ xTs := xi_2 184 rfl rfl
theorem xw_198 : Cond.fieldLink RX9 188 "IceBoats$Boat" "since" "I" ∈ xTs := xi_1 178 rfl rfl
theorem xw_199 : Cond.methodLink RX9 194 yX9_tellSet ∈ xTs := xi_2 189 rfl rfl
theorem xw_200 : Cond.instanceMethod yX9_tellSet ∈ xTs := xi_2 191 rfl rfl
theorem xw_201 : Cond.selects RX9 yX9_tellSet yX9_tellSet ∈ xTs := xi_0 9 rfl rfl
theorem xw_202 : Cond.code yX9_tellSet cX9_tellSet 3 (some .int) ∈ xTs := xi_2 192 rfl rfl
theorem xw_203 : Cond.fieldLink RX9 428 "IceBoats" "lastSet" "J" ∈ xTs := xi_1 223 rfl rfl
theorem xw_204 : Cond.methodLink RX9 198 yX0_isAble ∈ xTs := xi_2 197 rfl rfl
theorem xw_205 : Cond.instanceMethod yX0_isAble ∈ xTs := xi_2 198 rfl rfl
theorem xw_206 : Cond.selects RX0 yX0_isAble yX0_isAble ∈ xTs := xi_2 199 rfl rfl
theorem xw_207 : Cond.code yX0_isAble cX0_isAble 1 (some .boolean) ∈ xTs := xi_2 200 rfl rfl
theorem xw_208 : Cond.fieldLink RX9 201 "IceBoats$Boat" "way" "I" ∈ xTs := xi_1 172 rfl rfl
theorem xw_209 : Cond.methodLink RX9 204 yX9_moveBoat ∈ xTs := xi_2 205 rfl rfl
theorem xw_210 : Cond.instanceMethod yX9_moveBoat ∈ xTs := xi_2 207 rfl rfl
theorem xw_211 : Cond.selects RX9 yX9_moveBoat yX9_moveBoat ∈ xTs := xi_0 10 rfl rfl
theorem xw_212 : Cond.code yX9_moveBoat cX9_moveBoat 3 none ∈ xTs := xi_2 208 rfl rfl
theorem xw_213 : Cond.methodLink RX9 208 yX9_hearWhatComes ∈ xTs := xi_2 232 rfl rfl
theorem xw_214 : Cond.instanceMethod yX9_hearWhatComes ∈ xTs := xi_2 234 rfl rfl
theorem xw_215 : Cond.selects RX9 yX9_hearWhatComes yX9_hearWhatComes ∈ xTs := xi_0 12 rfl rfl
theorem xw_216 : Cond.code yX9_hearWhatComes cX9_hearWhatComes 5 (some .int) ∈ xTs := xi_2 235 rfl rfl
theorem xw_217 : Cond.methodLink RX9 211 yX0_failIfDue ∈ xTs := xi_3 51 rfl rfl
theorem xw_218 : Cond.instanceMethod yX0_failIfDue ∈ xTs := xi_3 52 rfl rfl
theorem xw_219 : Cond.selects RX0 yX0_failIfDue yX0_failIfDue ∈ xTs := xi_3 53 rfl rfl
theorem xw_220 : Cond.code yX0_failIfDue cX0_failIfDue 2 none ∈ xTs := xi_3 54 rfl rfl
theorem xw_221 : Cond.methodLink RX9 479 yX6_leadsTo ∈ xTs := xi_2 209 rfl rfl
theorem xw_222 : Cond.instanceMethod yX6_leadsTo ∈ xTs := xi_2 210 rfl rfl
theorem xw_223 : Cond.selects RX6 yX6_leadsTo yX6_leadsTo ∈ xTs := xi_2 211 rfl rfl
theorem xw_224 : Cond.code yX6_leadsTo cX6_leadsTo 5 (some .int) ∈ xTs := xi_2 212 rfl rfl
theorem xw_225 : Cond.methodLink RX9 482 yX9_lotCarries ∈ xTs := xi_2 217 rfl rfl
theorem xw_226 : Cond.instanceMethod yX9_lotCarries ∈ xTs := xi_2 219 rfl rfl
theorem xw_227 : Cond.selects RX9 yX9_lotCarries yX9_lotCarries ∈ xTs := xi_0 11 rfl rfl
theorem xw_228 : Cond.code yX9_lotCarries cX9_lotCarries 1 (some .boolean) ∈ xTs := xi_2 220 rfl rfl
theorem xw_229 : Cond.methodLink RX9 485 yX6_carriedFrom ∈ xTs := xi_2 222 rfl rfl
theorem xw_230 : Cond.instanceMethod yX6_carriedFrom ∈ xTs := xi_2 223 rfl rfl
theorem xw_231 : Cond.selects RX6 yX6_carriedFrom yX6_carriedFrom ∈ xTs := xi_2 224 rfl rfl
theorem xw_232 : Cond.code yX6_carriedFrom cX6_carriedFrom 2 (some .int) ∈ xTs := xi_2 225 rfl rfl
theorem xw_233 : Cond.methodLink RX9 488 yX6_couldBehind ∈ xTs := xi_2 227 rfl rfl
theorem xw_234 : Cond.instanceMethod yX6_couldBehind ∈ xTs := xi_2 228 rfl rfl
theorem xw_235 : Cond.selects RX6 yX6_couldBehind yX6_couldBehind ∈ xTs := xi_2 229 rfl rfl
theorem xw_236 : Cond.code yX6_couldBehind cX6_couldBehind 8 (some .long) ∈ xTs := xi_2 230 rfl rfl
theorem xw_237 : Cond.constant RX9 492 1103515245 ∈ xTs := xi_2 221 rfl rfl
theorem xw_238 : Cond.methodLink RX6 55 yX6_leadsTo ∈ xTs := xi_2 226 rfl rfl
theorem xw_239 : Cond.methodLink RX6 59 yX6_carriedFrom ∈ xTs := xi_2 231 rfl rfl
theorem xw_240 : Cond.fieldLink RX9 267 "IceBoats" "wordCount" "I" ∈ xTs := xi_1 217 rfl rfl
theorem xw_241 : Cond.methodLink RX9 493 yX8_comesAt ∈ xTs := xi_2 236 rfl rfl
theorem xw_242 : Cond.instanceMethod yX8_comesAt ∈ xTs := xi_2 237 rfl rfl
theorem xw_243 : Cond.selects RX8 yX8_comesAt yX8_comesAt ∈ xTs := xi_2 238 rfl rfl
theorem xw_244 : Cond.initialized RX8 ∈ xTs := xi_1 14 rfl rfl
theorem xw_245 : Cond.code yX8_comesAt cX8_comesAt 3 (some .boolean) ∈ xTs := xi_2 239 rfl rfl
theorem xw_246 : Cond.methodLink RX9 496 yX9_loseMetWords ∈ xTs := xi_3 0 rfl rfl
theorem xw_247 : Cond.instanceMethod yX9_loseMetWords ∈ xTs := xi_3 2 rfl rfl
theorem xw_248 : Cond.selects RX9 yX9_loseMetWords yX9_loseMetWords ∈ xTs := xi_0 13 rfl rfl
theorem xw_249 : Cond.code yX9_loseMetWords cX9_loseMetWords 3 none ∈ xTs := xi_3 3 rfl rfl
theorem xw_250 : Cond.fieldLink RX9 308 "IceBoats$Word" "fate" "[I" ∈ xTs := xi_3 144 rfl rfl
theorem xw_251 : Cond.methodLink RX9 499 yX9_takeIn ∈ xTs := xi_3 4 rfl rfl
theorem xw_252 : Cond.instanceMethod yX9_takeIn ∈ xTs := xi_3 6 rfl rfl
theorem xw_253 : Cond.selects RX9 yX9_takeIn yX9_takeIn ∈ xTs := xi_0 14 rfl rfl
theorem xw_254 : Cond.code yX9_takeIn cX9_takeIn 4 none ∈ xTs := xi_3 7 rfl rfl
theorem xw_255 : Cond.fieldLink RX8 15 "IceBoats$Word" "fate" "[I" ∈ xTs := xi_3 143 rfl rfl
theorem xw_256 : Cond.fieldLink RX8 9 "IceBoats$Word" "comes" "[I" ∈ xTs := xi_3 141 rfl rfl
theorem xw_257 : Cond.fieldLink RX9 282 "IceBoats$Word" "kind" "I" ∈ xTs := xi_3 132 rfl rfl
theorem xw_258 : Cond.fieldLink RX9 286 "IceBoats$Word" "sayerCould" "J" ∈ xTs := xi_3 140 rfl rfl
theorem xw_259 : Cond.fieldLink RX9 503 "IceBoats$Word" "when" "I" ∈ xTs := xi_3 136 rfl rfl
theorem xw_260 : Cond.methodLink RX9 504 yX6_cellsAtTime ∈ xTs := xi_3 8 rfl rfl
theorem xw_261 : Cond.instanceMethod yX6_cellsAtTime ∈ xTs := xi_3 9 rfl rfl
theorem xw_262 : Cond.selects RX6 yX6_cellsAtTime yX6_cellsAtTime ∈ xTs := xi_3 10 rfl rfl
theorem xw_263 : Cond.code yX6_cellsAtTime cX6_cellsAtTime 8 (some .long) ∈ xTs := xi_3 11 rfl rfl
theorem xw_264 : Cond.methodLink RX9 242 yX0_keepCould ∈ xTs := xi_3 26 rfl rfl
theorem xw_265 : Cond.instanceMethod yX0_keepCould ∈ xTs := xi_3 27 rfl rfl
theorem xw_266 : Cond.selects RX0 yX0_keepCould yX0_keepCould ∈ xTs := xi_3 28 rfl rfl
theorem xw_267 : Cond.code yX0_keepCould cX0_keepCould 3 none ∈ xTs := xi_3 29 rfl rfl
theorem xw_268 : Cond.fieldLink RX9 289 "IceBoats$Word" "v" "I" ∈ xTs := xi_3 138 rfl rfl
theorem xw_269 : Cond.methodLink RX9 507 yX9_holdLook ∈ xTs := xi_3 30 rfl rfl
theorem xw_270 : Cond.instanceMethod yX9_holdLook ∈ xTs := xi_3 32 rfl rfl
theorem xw_271 : Cond.selects RX9 yX9_holdLook yX9_holdLook ∈ xTs := xi_0 15 rfl rfl
theorem xw_272 : Cond.code yX9_holdLook cX9_holdLook 4 none ∈ xTs := xi_3 33 rfl rfl
theorem xw_273 : Cond.methodLink RX9 347 yX9_leastCell ∈ xTs := xi_3 38 rfl rfl
theorem xw_274 : Cond.static yX9_leastCell ∈ xTs := xi_3 39 rfl rfl
theorem xw_275 : Cond.code yX9_leastCell cX9_leastCell 2 (some .int) ∈ xTs := xi_3 40 rfl rfl
theorem xw_276 : Cond.methodLink RX9 350 yX6_wayNearer ∈ xTs := xi_3 41 rfl rfl
theorem xw_277 : Cond.instanceMethod yX6_wayNearer ∈ xTs := xi_3 42 rfl rfl
theorem xw_278 : Cond.selects RX6 yX6_wayNearer yX6_wayNearer ∈ xTs := xi_3 43 rfl rfl
theorem xw_279 : Cond.code yX6_wayNearer cX6_wayNearer 5 (some .int) ∈ xTs := xi_3 44 rfl rfl
theorem xw_280 : Cond.methodLink RX6 75 yX7_beginIn ∈ xTs := xi_3 12 rfl rfl
theorem xw_281 : Cond.instanceMethod yX7_beginIn ∈ xTs := xi_3 13 rfl rfl
theorem xw_282 : Cond.selects RX7 yX7_beginIn yX7_beginIn ∈ xTs := xi_3 14 rfl rfl
theorem xw_283 : Cond.code yX7_beginIn cX7_beginIn 3 none ∈ xTs := xi_3 15 rfl rfl
theorem xw_284 : Cond.methodLink RX6 82 yX7_spread ∈ xTs := xi_3 16 rfl rfl
theorem xw_285 : Cond.instanceMethod yX7_spread ∈ xTs := xi_3 17 rfl rfl
theorem xw_286 : Cond.selects RX7 yX7_spread yX7_spread ∈ xTs := xi_3 18 rfl rfl
theorem xw_287 : Cond.code yX7_spread cX7_spread 5 none ∈ xTs := xi_3 19 rfl rfl
theorem xw_288 : Cond.fieldLink RX6 79 "IceBoats$Wave" "fronts" "[J" ∈ xTs := xi_1 39 rfl rfl
theorem xw_289 : Cond.fieldLink RX7 15 "IceBoats$Wave" "reached" "J" ∈ xTs := xi_1 40 rfl rfl
theorem xw_290 : Cond.methodLink RX7 19 yX7_besides ∈ xTs := xi_3 20 rfl rfl
theorem xw_291 : Cond.static yX7_besides ∈ xTs := xi_3 21 rfl rfl
theorem xw_292 : Cond.code yX7_besides cX7_besides 2 (some .long) ∈ xTs := xi_3 22 rfl rfl
theorem xw_293 : Cond.fieldLink RX7 23 "IceBoats$Sea" "cellsOfWarmth" "[J" ∈ xTs := xi_1 57 rfl rfl
theorem xw_294 : Cond.fieldLink RX7 28 "IceBoats$Sea" "rocks" "J" ∈ xTs := xi_1 60 rfl rfl
theorem xw_295 : Cond.constantLong RX7 31 (-1) ∈ xTs := xi_3 25 rfl rfl
theorem xw_296 : Cond.constantLong RX7 33 (-72340172838076674) ∈ xTs := xi_3 23 rfl rfl
theorem xw_297 : Cond.constantLong RX7 35 9187201950435737471 ∈ xTs := xi_3 24 rfl rfl
theorem xw_298 : Cond.methodLink RX9 227 yX9_lookAt ∈ xTs := xi_3 34 rfl rfl
theorem xw_299 : Cond.instanceMethod yX9_lookAt ∈ xTs := xi_3 36 rfl rfl
theorem xw_300 : Cond.selects RX9 yX9_lookAt yX9_lookAt ∈ xTs := xi_0 16 rfl rfl
theorem xw_301 : Cond.code yX9_lookAt cX9_lookAt 2 (some (.object "IceBoats$Look")) ∈ xTs := xi_3 37 rfl rfl
theorem xw_302 : Cond.static yX9_stepsBetween ∈ xTs := xi_3 46 rfl rfl
theorem xw_303 : Cond.code yX9_stepsBetween cX9_stepsBetween 2 (some .int) ∈ xTs := xi_3 47 rfl rfl
theorem xw_304 : Cond.methodLink RX9 470 Lib.Math.abs.name ∈ xTs := xi_3 48 rfl rfl
theorem xw_305 : Cond.static Lib.Math.abs.name ∈ xTs := xi_3 49 rfl rfl
theorem xw_306 : Cond.initialized "java/lang/Math" ∈ xTs := xi_1 12 rfl rfl
theorem xw_307 : Cond.code Lib.Math.abs.name Lib.Math.abs.code 1 (some .int) ∈ xTs := xi_3 50 rfl rfl
theorem xw_308 : Cond.methodLink RX0 41 yX0_isAble ∈ xTs := xi_3 55 rfl rfl
theorem xw_309 : Cond.classLink RX9 37 RX2 ∈ xTs := xi_1 83 rfl rfl
theorem xw_310 : Cond.instantiable RX2 4 ∈ xTs := xi_3 60 rfl rfl
theorem xw_311 : Cond.initialized RX2 ∈ xTs := xi_1 13 rfl rfl
theorem xw_312 : Cond.methodLink RX9 221 yX2_init ∈ xTs := xi_3 61 rfl rfl
theorem xw_313 : Cond.instanceMethod yX2_init ∈ xTs := xi_3 62 rfl rfl
theorem xw_314 : Cond.code yX2_init cX2_init 5 none ∈ xTs := xi_3 63 rfl rfl
theorem xw_315 : Cond.fieldLink RX9 223 "IceBoats$Boat" "latestLook" "LIceBoats$Look;" ∈ xTs := xi_1 181 rfl rfl
theorem xw_316 : Cond.methodLink RX2 1 Lib.objectInit ∈ xTs := xi_3 64 rfl rfl
theorem xw_317 : Cond.fieldLink RX2 7 "IceBoats$Look" "cell" "I" ∈ xTs := xi_3 65 rfl rfl
theorem xw_318 : Cond.fieldLink RX2 13 "IceBoats$Look" "ice" "I" ∈ xTs := xi_3 67 rfl rfl
theorem xw_319 : Cond.fieldLink RX2 16 "IceBoats$Look" "when" "I" ∈ xTs := xi_3 69 rfl rfl
theorem xw_320 : Cond.fieldLink RX2 19 "IceBoats$Look" "holders" "I" ∈ xTs := xi_3 71 rfl rfl
theorem xw_321 : Cond.methodLink RX9 231 yX2_tellOf ∈ xTs := xi_3 86 rfl rfl
theorem xw_322 : Cond.instanceMethod yX2_tellOf ∈ xTs := xi_3 87 rfl rfl
theorem xw_323 : Cond.selects RX2 yX2_tellOf yX2_tellOf ∈ xTs := xi_3 88 rfl rfl
theorem xw_324 : Cond.code yX2_tellOf cX2_tellOf 2 (some .int) ∈ xTs := xi_3 89 rfl rfl
theorem xw_325 : Cond.fieldLink RX9 233 "IceBoats$Look" "when" "I" ∈ xTs := xi_3 70 rfl rfl
theorem xw_326 : Cond.fieldLink RX9 236 "IceBoats$Look" "ice" "I" ∈ xTs := xi_3 68 rfl rfl
theorem xw_327 : Cond.methodLink RX9 238 yX6_cellsChartedAs ∈ xTs := xi_3 94 rfl rfl
theorem xw_328 : Cond.instanceMethod yX6_cellsChartedAs ∈ xTs := xi_3 95 rfl rfl
theorem xw_329 : Cond.selects RX6 yX6_cellsChartedAs yX6_cellsChartedAs ∈ xTs := xi_3 96 rfl rfl
theorem xw_330 : Cond.code yX6_cellsChartedAs cX6_cellsChartedAs 5 (some .long) ∈ xTs := xi_3 97 rfl rfl
theorem xw_331 : Cond.methodLink RX9 251 yX9_isOpenCell ∈ xTs := xi_3 106 rfl rfl
theorem xw_332 : Cond.instanceMethod yX9_isOpenCell ∈ xTs := xi_3 108 rfl rfl
theorem xw_333 : Cond.selects RX9 yX9_isOpenCell yX9_isOpenCell ∈ xTs := xi_0 17 rfl rfl
theorem xw_334 : Cond.code yX9_isOpenCell cX9_isOpenCell 2 (some .boolean) ∈ xTs := xi_3 109 rfl rfl
theorem xw_335 : Cond.methodLink RX9 254 yX6_soundTime ∈ xTs := xi_3 110 rfl rfl
theorem xw_336 : Cond.instanceMethod yX6_soundTime ∈ xTs := xi_3 111 rfl rfl
theorem xw_337 : Cond.selects RX6 yX6_soundTime yX6_soundTime ∈ xTs := xi_3 112 rfl rfl
theorem xw_338 : Cond.code yX6_soundTime cX6_soundTime 5 (some .int) ∈ xTs := xi_3 113 rfl rfl
theorem xw_339 : Cond.methodLink RX9 258 yX9_fitsWord ∈ xTs := xi_3 118 rfl rfl
theorem xw_340 : Cond.instanceMethod yX9_fitsWord ∈ xTs := xi_3 120 rfl rfl
theorem xw_341 : Cond.selects RX9 yX9_fitsWord yX9_fitsWord ∈ xTs := xi_0 18 rfl rfl
theorem xw_342 : Cond.code yX9_fitsWord cX9_fitsWord 3 (some .boolean) ∈ xTs := xi_3 121 rfl rfl
theorem xw_343 : Cond.fieldLink RX9 261 "IceBoats$Boat" "lastSpoke" "I" ∈ xTs := xi_1 176 rfl rfl
theorem xw_344 : Cond.methodLink RX9 264 yX9_holdsLook ∈ xTs := xi_3 122 rfl rfl
theorem xw_345 : Cond.instanceMethod yX9_holdsLook ∈ xTs := xi_3 124 rfl rfl
theorem xw_346 : Cond.selects RX9 yX9_holdsLook yX9_holdsLook ∈ xTs := xi_0 19 rfl rfl
theorem xw_347 : Cond.code yX9_holdsLook cX9_holdsLook 4 (some .boolean) ∈ xTs := xi_3 125 rfl rfl
theorem xw_348 : Cond.classLink RX9 31 RX8 ∈ xTs := xi_1 81 rfl rfl
theorem xw_349 : Cond.instantiable RX8 7 ∈ xTs := xi_3 126 rfl rfl
theorem xw_350 : Cond.methodLink RX9 270 yX8_init ∈ xTs := xi_3 127 rfl rfl
theorem xw_351 : Cond.instanceMethod yX8_init ∈ xTs := xi_3 128 rfl rfl
theorem xw_352 : Cond.code yX8_init cX8_init 7 none ∈ xTs := xi_3 129 rfl rfl
theorem xw_353 : Cond.methodLink RX9 273 yX9_sendWord ∈ xTs := xi_3 160 rfl rfl
theorem xw_354 : Cond.instanceMethod yX9_sendWord ∈ xTs := xi_3 162 rfl rfl
theorem xw_355 : Cond.selects RX9 yX9_sendWord yX9_sendWord ∈ xTs := xi_0 20 rfl rfl
theorem xw_356 : Cond.code yX9_sendWord cX9_sendWord 5 none ∈ xTs := xi_3 163 rfl rfl
theorem xw_357 : Cond.methodLink RX8 3 Lib.objectInit ∈ xTs := xi_3 130 rfl rfl
theorem xw_358 : Cond.fieldLink RX8 18 "IceBoats$Word" "kind" "I" ∈ xTs := xi_3 131 rfl rfl
theorem xw_359 : Cond.fieldLink RX8 22 "IceBoats$Word" "sayer" "I" ∈ xTs := xi_3 133 rfl rfl
theorem xw_360 : Cond.fieldLink RX8 25 "IceBoats$Word" "when" "I" ∈ xTs := xi_3 135 rfl rfl
theorem xw_361 : Cond.fieldLink RX8 28 "IceBoats$Word" "v" "I" ∈ xTs := xi_3 137 rfl rfl
theorem xw_362 : Cond.fieldLink RX8 31 "IceBoats$Word" "sayerCould" "J" ∈ xTs := xi_3 139 rfl rfl
theorem xw_363 : Cond.fieldLink RX9 299 "IceBoats$Word" "sayer" "I" ∈ xTs := xi_3 134 rfl rfl
theorem xw_364 : Cond.fieldLink RX9 510 "IceBoats$Word" "comes" "[I" ∈ xTs := xi_3 142 rfl rfl
theorem xw_365 : Cond.methodLink RX9 332 Lib.Math.max.name ∈ xTs := xi_3 164 rfl rfl
theorem xw_366 : Cond.static Lib.Math.max.name ∈ xTs := xi_3 165 rfl rfl
theorem xw_367 : Cond.code Lib.Math.max.name Lib.Math.max.code 2 (some .int) ∈ xTs := xi_3 166 rfl rfl
theorem xw_368 : Cond.methodLink RX9 277 yX9_wordAt ∈ xTs := xi_3 171 rfl rfl
theorem xw_369 : Cond.instanceMethod yX9_wordAt ∈ xTs := xi_3 173 rfl rfl
theorem xw_370 : Cond.selects RX9 yX9_wordAt yX9_wordAt ∈ xTs := xi_0 21 rfl rfl
theorem xw_371 : Cond.code yX9_wordAt cX9_wordAt 2 (some (.object "IceBoats$Word")) ∈ xTs := xi_3 174 rfl rfl
theorem xw_372 : Cond.methodLink RX9 281 yX8_tellOf ∈ xTs := xi_3 175 rfl rfl
theorem xw_373 : Cond.instanceMethod yX8_tellOf ∈ xTs := xi_3 176 rfl rfl
theorem xw_374 : Cond.selects RX8 yX8_tellOf yX8_tellOf ∈ xTs := xi_3 177 rfl rfl
theorem xw_375 : Cond.code yX8_tellOf cX8_tellOf 2 (some .int) ∈ xTs := xi_3 178 rfl rfl
theorem xw_376 : Cond.fieldLink RX9 283 "IceBoats" "WORD_KIND_ABOVE" "[I" ∈ xTs := xi_3 183 rfl rfl
theorem xw_377 : Cond.methodLink RX9 292 yX9_iceOfLook ∈ xTs := xi_3 185 rfl rfl
theorem xw_378 : Cond.instanceMethod yX9_iceOfLook ∈ xTs := xi_3 187 rfl rfl
theorem xw_379 : Cond.selects RX9 yX9_iceOfLook yX9_iceOfLook ∈ xTs := xi_0 22 rfl rfl
theorem xw_380 : Cond.code yX9_iceOfLook cX9_iceOfLook 3 (some .int) ∈ xTs := xi_3 188 rfl rfl
theorem xw_381 : Cond.methodLink RX9 295 yX8_hearers ∈ xTs := xi_3 189 rfl rfl
theorem xw_382 : Cond.instanceMethod yX8_hearers ∈ xTs := xi_3 190 rfl rfl
theorem xw_383 : Cond.selects RX8 yX8_hearers yX8_hearers ∈ xTs := xi_3 191 rfl rfl
theorem xw_384 : Cond.code yX8_hearers cX8_hearers 3 (some .int) ∈ xTs := xi_3 192 rfl rfl
theorem xw_385 : Cond.methodLink RX9 302 yX9_stepsBetween ∈ xTs := xi_3 193 rfl rfl
theorem xw_386 : Cond.methodLink RX9 311 yX9_isBoatOrNone ∈ xTs := xi_3 202 rfl rfl
theorem xw_387 : Cond.static yX9_isBoatOrNone ∈ xTs := xi_3 203 rfl rfl
theorem xw_388 : Cond.code yX9_isBoatOrNone cX9_isBoatOrNone 1 (some .boolean) ∈ xTs := xi_3 204 rfl rfl
theorem xw_389 : Cond.methodLink RX9 314 yX8_knownBy ∈ xTs := xi_3 205 rfl rfl
theorem xw_390 : Cond.instanceMethod yX8_knownBy ∈ xTs := xi_3 206 rfl rfl
theorem xw_391 : Cond.selects RX8 yX8_knownBy yX8_knownBy ∈ xTs := xi_3 207 rfl rfl
theorem xw_392 : Cond.code yX8_knownBy cX8_knownBy 2 (some .int) ∈ xTs := xi_3 208 rfl rfl
theorem xw_393 : Cond.methodLink RX9 317 yX9_knownOf ∈ xTs := xi_3 209 rfl rfl
theorem xw_394 : Cond.instanceMethod yX9_knownOf ∈ xTs := xi_3 211 rfl rfl
theorem xw_395 : Cond.selects RX9 yX9_knownOf yX9_knownOf ∈ xTs := xi_0 23 rfl rfl
theorem xw_396 : Cond.code yX9_knownOf cX9_knownOf 5 (some .int) ∈ xTs := xi_3 212 rfl rfl
theorem xw_397 : Cond.methodLink RX9 321 yX9_knownOfKnown ∈ xTs := xi_3 217 rfl rfl
theorem xw_398 : Cond.instanceMethod yX9_knownOfKnown ∈ xTs := xi_3 219 rfl rfl
theorem xw_399 : Cond.selects RX9 yX9_knownOfKnown yX9_knownOfKnown ∈ xTs := xi_0 25 rfl rfl
theorem xw_400 : Cond.code yX9_knownOfKnown cX9_knownOfKnown 6 (some .int) ∈ xTs := xi_3 220 rfl rfl
theorem xw_401 : Cond.methodLink RX9 513 yX9_firstHeardFrom ∈ xTs := xi_3 213 rfl rfl
theorem xw_402 : Cond.instanceMethod yX9_firstHeardFrom ∈ xTs := xi_3 215 rfl rfl
theorem xw_403 : Cond.selects RX9 yX9_firstHeardFrom yX9_firstHeardFrom ∈ xTs := xi_0 24 rfl rfl
theorem xw_404 : Cond.code yX9_firstHeardFrom cX9_firstHeardFrom 8 (some .int) ∈ xTs := xi_3 216 rfl rfl
theorem xw_405 : Cond.methodLink RX9 329 yX9_knownOfAll ∈ xTs := xi_3 225 rfl rfl
theorem xw_406 : Cond.instanceMethod yX9_knownOfAll ∈ xTs := xi_3 227 rfl rfl
theorem xw_407 : Cond.selects RX9 yX9_knownOfAll yX9_knownOfAll ∈ xTs := xi_0 26 rfl rfl
theorem xw_408 : Cond.code yX9_knownOfAll cX9_knownOfAll 7 (some .int) ∈ xTs := xi_3 228 rfl rfl
theorem xw_409 : Cond.methodLink RX9 516 yX9_laterOrNone ∈ xTs := xi_3 229 rfl rfl
theorem xw_410 : Cond.static yX9_laterOrNone ∈ xTs := xi_3 230 rfl rfl
theorem xw_411 : Cond.code yX9_laterOrNone cX9_laterOrNone 2 (some .int) ∈ xTs := xi_3 231 rfl rfl
theorem xw_412 : Cond.methodLink RX9 337 yX5_readRules ∈ xTs := xi_3 236 rfl rfl
theorem xw_413 : Cond.instanceMethod yX5_readRules ∈ xTs := xi_3 237 rfl rfl
theorem xw_414 : Cond.selects RX5 yX5_readRules yX5_readRules ∈ xTs := xi_3 238 rfl rfl
theorem xw_415 : Cond.code yX5_readRules cX5_readRules 6 (some .int) ∈ xTs := xi_3 239 rfl rfl
theorem xw_416 : Cond.fieldLink RX5 15 "IceBoats$Row" "size" "I" ∈ xTs := xi_1 148 rfl rfl
theorem xw_417 : Cond.fieldLink RX5 21 "IceBoats$Row" "places" "[I" ∈ xTs := xi_1 144 rfl rfl
theorem xw_418 : Cond.methodLink RX5 24 yX5_letterOf ∈ xTs := xi_4 0 rfl rfl
theorem xw_419 : Cond.static yX5_letterOf ∈ xTs := xi_4 1 rfl rfl
theorem xw_420 : Cond.code yX5_letterOf cX5_letterOf 2 (some .int) ∈ xTs := xi_4 2 rfl rfl
theorem xw_421 : Cond.methodLink RX5 28 yX5_endOfDigits ∈ xTs := xi_4 5 rfl rfl
theorem xw_422 : Cond.static yX5_endOfDigits ∈ xTs := xi_4 6 rfl rfl
theorem xw_423 : Cond.code yX5_endOfDigits cX5_endOfDigits 3 (some .int) ∈ xTs := xi_4 7 rfl rfl
theorem xw_424 : Cond.methodLink RX5 32 yX5_numberIn ∈ xTs := xi_4 8 rfl rfl
theorem xw_425 : Cond.static yX5_numberIn ∈ xTs := xi_4 9 rfl rfl
theorem xw_426 : Cond.code yX5_numberIn cX5_numberIn 5 (some .int) ∈ xTs := xi_4 10 rfl rfl
theorem xw_427 : Cond.fieldLink RX9 341 "IceBoats$Boat" "rules" "[I" ∈ xTs := xi_1 162 rfl rfl
theorem xw_428 : Cond.fieldLink RX9 344 "IceBoats$RuleReader" "numbers" "[I" ∈ xTs := xi_1 92 rfl rfl
theorem xw_429 : Cond.methodLink RX9 353 yX9_isDueNow ∈ xTs := xi_4 23 rfl rfl
theorem xw_430 : Cond.instanceMethod yX9_isDueNow ∈ xTs := xi_4 25 rfl rfl
theorem xw_431 : Cond.selects RX9 yX9_isDueNow yX9_isDueNow ∈ xTs := xi_0 27 rfl rfl
theorem xw_432 : Cond.code yX9_isDueNow cX9_isDueNow 2 (some .boolean) ∈ xTs := xi_4 26 rfl rfl
theorem xw_433 : Cond.methodLink RX9 356 yX9_isMap ∈ xTs := xi_4 31 rfl rfl
theorem xw_434 : Cond.static yX9_isMap ∈ xTs := xi_4 32 rfl rfl
theorem xw_435 : Cond.code yX9_isMap cX9_isMap 2 (some .boolean) ∈ xTs := xi_4 33 rfl rfl
theorem xw_436 : Cond.methodLink RX9 360 yX9_alikePlaces ∈ xTs := xi_4 34 rfl rfl
theorem xw_437 : Cond.static yX9_alikePlaces ∈ xTs := xi_4 35 rfl rfl
theorem xw_438 : Cond.code yX9_alikePlaces cX9_alikePlaces 10 (some .int) ∈ xTs := xi_4 36 rfl rfl
theorem xw_439 : Cond.fieldLink RX9 370 "IceBoats$Look" "cell" "I" ∈ xTs := xi_3 66 rfl rfl
theorem xw_440 : Cond.methodLink RX9 371 (⟨"java/lang/Integer", "bitCount", "(I)I"⟩ : MethodName) ∈ xTs := xi_4 45 rfl rfl
theorem xw_441 : Cond.static (⟨"java/lang/Integer", "bitCount", "(I)I"⟩ : MethodName) ∈ xTs := xi_4 46 rfl rfl
theorem xw_442 : Cond.initialized "java/lang/Integer" ∈ xTs := xi_1 15 rfl rfl
theorem xw_443 : Cond.code (⟨"java/lang/Integer", "bitCount", "(I)I"⟩ : MethodName) prog_13_method_49_code 1 (some .int) ∈ xTs := xi_4 47 rfl rfl
theorem xw_444 : Cond.methodLink RX9 375 yX9_faultOfPlanRows ∈ xTs := xi_4 51 rfl rfl
theorem xw_445 : Cond.instanceMethod yX9_faultOfPlanRows ∈ xTs := xi_4 53 rfl rfl
theorem xw_446 : Cond.selects RX9 yX9_faultOfPlanRows yX9_faultOfPlanRows ∈ xTs := xi_0 28 rfl rfl
theorem xw_447 : Cond.code yX9_faultOfPlanRows cX9_faultOfPlanRows 5 (some .int) ∈ xTs := xi_4 54 rfl rfl
theorem xw_448 : Cond.methodLink RX9 378 yX3_forget ∈ xTs := xi_4 61 rfl rfl
theorem xw_449 : Cond.instanceMethod yX3_forget ∈ xTs := xi_4 62 rfl rfl
theorem xw_450 : Cond.selects RX3 yX3_forget yX3_forget ∈ xTs := xi_4 63 rfl rfl
theorem xw_451 : Cond.code yX3_forget cX3_forget 2 none ∈ xTs := xi_4 64 rfl rfl
theorem xw_452 : Cond.methodLink RX9 381 yX9_offerRows ∈ xTs := xi_4 65 rfl rfl
theorem xw_453 : Cond.instanceMethod yX9_offerRows ∈ xTs := xi_4 67 rfl rfl
theorem xw_454 : Cond.selects RX9 yX9_offerRows yX9_offerRows ∈ xTs := xi_0 29 rfl rfl
theorem xw_455 : Cond.code yX9_offerRows cX9_offerRows 5 none ∈ xTs := xi_4 68 rfl rfl
theorem xw_456 : Cond.methodLink RX9 385 yX3_choose ∈ xTs := xi_4 80 rfl rfl
theorem xw_457 : Cond.instanceMethod yX3_choose ∈ xTs := xi_4 81 rfl rfl
theorem xw_458 : Cond.selects RX3 yX3_choose yX3_choose ∈ xTs := xi_4 82 rfl rfl
theorem xw_459 : Cond.code yX3_choose cX3_choose 4 none ∈ xTs := xi_4 83 rfl rfl
theorem xw_460 : Cond.fieldLink RX9 388 "IceBoats$Planner" "choice" "I" ∈ xTs := xi_1 107 rfl rfl
theorem xw_461 : Cond.fieldLink RX9 391 "IceBoats$Planner" "most" "I" ∈ xTs := xi_1 105 rfl rfl
theorem xw_462 : Cond.constant "java/lang/Integer" 265 1431655765 ∈ xTs := xi_4 48 rfl rfl
theorem xw_463 : Cond.constant "java/lang/Integer" 266 858993459 ∈ xTs := xi_4 49 rfl rfl
theorem xw_464 : Cond.constant "java/lang/Integer" 267 252645135 ∈ xTs := xi_4 50 rfl rfl
theorem xw_465 : Cond.methodLink RX9 394 yX9_faultOfWays ∈ xTs := xi_4 55 rfl rfl
theorem xw_466 : Cond.static yX9_faultOfWays ∈ xTs := xi_4 56 rfl rfl
theorem xw_467 : Cond.code yX9_faultOfWays cX9_faultOfWays 2 (some .int) ∈ xTs := xi_4 57 rfl rfl
theorem xw_468 : Cond.methodLink RX9 519 yX9_areWays ∈ xTs := xi_4 58 rfl rfl
theorem xw_469 : Cond.static yX9_areWays ∈ xTs := xi_4 59 rfl rfl
theorem xw_470 : Cond.code yX9_areWays cX9_areWays 2 (some .boolean) ∈ xTs := xi_4 60 rfl rfl
theorem xw_471 : Cond.methodLink RX9 522 yX9_powerFor ∈ xTs := xi_4 69 rfl rfl
theorem xw_472 : Cond.static yX9_powerFor ∈ xTs := xi_4 70 rfl rfl
theorem xw_473 : Cond.code yX9_powerFor cX9_powerFor 3 (some .int) ∈ xTs := xi_4 71 rfl rfl
theorem xw_474 : Cond.methodLink RX9 525 yX6_cellsOnTheWay ∈ xTs := xi_4 72 rfl rfl
theorem xw_475 : Cond.instanceMethod yX6_cellsOnTheWay ∈ xTs := xi_4 73 rfl rfl
theorem xw_476 : Cond.selects RX6 yX6_cellsOnTheWay yX6_cellsOnTheWay ∈ xTs := xi_4 74 rfl rfl
theorem xw_477 : Cond.code yX6_cellsOnTheWay cX6_cellsOnTheWay 7 (some .long) ∈ xTs := xi_4 75 rfl rfl
theorem xw_478 : Cond.methodLink RX9 529 yX3_offer ∈ xTs := xi_4 76 rfl rfl
theorem xw_479 : Cond.instanceMethod yX3_offer ∈ xTs := xi_4 77 rfl rfl
theorem xw_480 : Cond.selects RX3 yX3_offer yX3_offer ∈ xTs := xi_4 78 rfl rfl
theorem xw_481 : Cond.code yX3_offer cX3_offer 5 none ∈ xTs := xi_4 79 rfl rfl
theorem xw_482 : Cond.fieldLink RX6 66 "IceBoats$Row" "size" "I" ∈ xTs := xi_1 150 rfl rfl
theorem xw_483 : Cond.fieldLink RX6 72 "IceBoats$Row" "places" "[I" ∈ xTs := xi_1 146 rfl rfl
theorem xw_484 : Cond.fieldLink RX3 19 "IceBoats$Planner" "most" "I" ∈ xTs := xi_1 104 rfl rfl
theorem xw_485 : Cond.methodLink RX3 23 yX3_weigh ∈ xTs := xi_4 84 rfl rfl
theorem xw_486 : Cond.instanceMethod yX3_weigh ∈ xTs := xi_4 85 rfl rfl
theorem xw_487 : Cond.selects RX3 yX3_weigh yX3_weigh ∈ xTs := xi_4 86 rfl rfl
theorem xw_488 : Cond.code yX3_weigh cX3_weigh 5 none ∈ xTs := xi_4 87 rfl rfl
theorem xw_489 : Cond.methodLink RX3 27 (⟨"java/lang/Long", "bitCount", "(J)I"⟩ : MethodName) ∈ xTs := xi_4 88 rfl rfl
theorem xw_490 : Cond.fieldLink RX3 33 "IceBoats$Planner" "choice" "I" ∈ xTs := xi_1 106 rfl rfl
theorem xw_491 : Cond.methodLink RX9 398 yX1_startIn ∈ xTs := xi_4 93 rfl rfl
theorem xw_492 : Cond.instanceMethod yX1_startIn ∈ xTs := xi_4 94 rfl rfl
theorem xw_493 : Cond.selects RX1 yX1_startIn yX1_startIn ∈ xTs := xi_4 95 rfl rfl
theorem xw_494 : Cond.code yX1_startIn cX1_startIn 2 none ∈ xTs := xi_4 96 rfl rfl
theorem xw_495 : Cond.methodLink RX9 401 yX1_follow ∈ xTs := xi_4 105 rfl rfl
theorem xw_496 : Cond.instanceMethod yX1_follow ∈ xTs := xi_4 106 rfl rfl
theorem xw_497 : Cond.selects RX1 yX1_follow yX1_follow ∈ xTs := xi_4 107 rfl rfl
theorem xw_498 : Cond.code yX1_follow cX1_follow 8 none ∈ xTs := xi_4 108 rfl rfl
theorem xw_499 : Cond.constantLong RX9 405 4 ∈ xTs := xi_4 118 rfl rfl
theorem xw_500 : Cond.fieldLink RX9 407 "IceBoats$Drift" "weights" "[I" ∈ xTs := xi_1 125 rfl rfl
theorem xw_501 : Cond.methodLink RX9 410 yX9_tellShare ∈ xTs := xi_4 119 rfl rfl
theorem xw_502 : Cond.instanceMethod yX9_tellShare ∈ xTs := xi_4 121 rfl rfl
theorem xw_503 : Cond.selects RX9 yX9_tellShare yX9_tellShare ∈ xTs := xi_0 30 rfl rfl
theorem xw_504 : Cond.code yX9_tellShare cX9_tellShare 10 none ∈ xTs := xi_4 122 rfl rfl
theorem xw_505 : Cond.methodLink RX1 24 yX1_clearNext ∈ xTs := xi_4 97 rfl rfl
theorem xw_506 : Cond.instanceMethod yX1_clearNext ∈ xTs := xi_4 98 rfl rfl
theorem xw_507 : Cond.selects RX1 yX1_clearNext yX1_clearNext ∈ xTs := xi_4 99 rfl rfl
theorem xw_508 : Cond.code yX1_clearNext cX1_clearNext 2 none ∈ xTs := xi_4 100 rfl rfl
theorem xw_509 : Cond.methodLink RX1 27 yX1_swapNext ∈ xTs := xi_4 101 rfl rfl
theorem xw_510 : Cond.instanceMethod yX1_swapNext ∈ xTs := xi_4 102 rfl rfl
theorem xw_511 : Cond.selects RX1 yX1_swapNext yX1_swapNext ∈ xTs := xi_4 103 rfl rfl
theorem xw_512 : Cond.code yX1_swapNext cX1_swapNext 3 none ∈ xTs := xi_4 104 rfl rfl
theorem xw_513 : Cond.methodLink RX1 30 yX6_leadsTo ∈ xTs := xi_4 109 rfl rfl
theorem xw_514 : Cond.methodLink RX1 36 yX6_carriedFrom ∈ xTs := xi_4 110 rfl rfl
theorem xw_515 : Cond.methodLink RX1 40 yX1_lead ∈ xTs := xi_4 111 rfl rfl
theorem xw_516 : Cond.instanceMethod yX1_lead ∈ xTs := xi_4 112 rfl rfl
theorem xw_517 : Cond.selects RX1 yX1_lead yX1_lead ∈ xTs := xi_4 113 rfl rfl
theorem xw_518 : Cond.code yX1_lead cX1_lead 4 none ∈ xTs := xi_4 114 rfl rfl
theorem xw_519 : Cond.methodLink RX1 44 Lib.Math.min.name ∈ xTs := xi_4 115 rfl rfl
theorem xw_520 : Cond.static Lib.Math.min.name ∈ xTs := xi_4 116 rfl rfl
theorem xw_521 : Cond.code Lib.Math.min.name Lib.Math.min.code 2 (some .int) ∈ xTs := xi_4 117 rfl rfl
theorem xw_522 : Cond.constantLong RX9 468 2 ∈ xTs := xi_4 123 rfl rfl
theorem xw_523 : Cond.fieldLink RX9 431 "IceBoats" "lastUpper" "J" ∈ xTs := xi_1 224 rfl rfl
theorem xw_524 : Cond.methodLink RX9 414 yX9_faultOfCourses ∈ xTs := xi_4 128 rfl rfl
theorem xw_525 : Cond.static yX9_faultOfCourses ∈ xTs := xi_4 129 rfl rfl
theorem xw_526 : Cond.code yX9_faultOfCourses cX9_faultOfCourses 2 (some .int) ∈ xTs := xi_4 130 rfl rfl
theorem xw_527 : Cond.methodLink RX9 418 yX9_keepWhatWasSeen ∈ xTs := xi_4 134 rfl rfl
theorem xw_528 : Cond.instanceMethod yX9_keepWhatWasSeen ∈ xTs := xi_4 136 rfl rfl
theorem xw_529 : Cond.selects RX9 yX9_keepWhatWasSeen yX9_keepWhatWasSeen ∈ xTs := xi_0 31 rfl rfl
theorem xw_530 : Cond.code yX9_keepWhatWasSeen cX9_keepWhatWasSeen 4 none ∈ xTs := xi_4 137 rfl rfl
theorem xw_531 : Cond.methodLink RX9 422 yX1_leastOddRow ∈ xTs := xi_4 142 rfl rfl
theorem xw_532 : Cond.instanceMethod yX1_leastOddRow ∈ xTs := xi_4 143 rfl rfl
theorem xw_533 : Cond.selects RX1 yX1_leastOddRow yX1_leastOddRow ∈ xTs := xi_4 144 rfl rfl
theorem xw_534 : Cond.code yX1_leastOddRow cX1_leastOddRow 3 (some .int) ∈ xTs := xi_4 145 rfl rfl
theorem xw_535 : Cond.methodLink RX9 425 yX1_sumOfWeights ∈ xTs := xi_4 146 rfl rfl
theorem xw_536 : Cond.instanceMethod yX1_sumOfWeights ∈ xTs := xi_4 147 rfl rfl
theorem xw_537 : Cond.selects RX1 yX1_sumOfWeights yX1_sumOfWeights ∈ xTs := xi_4 148 rfl rfl
theorem xw_538 : Cond.code yX1_sumOfWeights cX1_sumOfWeights 3 (some .int) ∈ xTs := xi_4 149 rfl rfl
theorem xw_539 : Cond.methodLink RX9 533 yX9_areSights ∈ xTs := xi_4 131 rfl rfl
theorem xw_540 : Cond.static yX9_areSights ∈ xTs := xi_4 132 rfl rfl
theorem xw_541 : Cond.code yX9_areSights cX9_areSights 3 (some .boolean) ∈ xTs := xi_4 133 rfl rfl
theorem xw_542 : Cond.methodLink RX9 537 yX1_keepOnly ∈ xTs := xi_4 138 rfl rfl
theorem xw_543 : Cond.instanceMethod yX1_keepOnly ∈ xTs := xi_4 139 rfl rfl
theorem xw_544 : Cond.selects RX1 yX1_keepOnly yX1_keepOnly ∈ xTs := xi_4 140 rfl rfl
theorem xw_545 : Cond.code yX1_keepOnly cX1_keepOnly 3 none ∈ xTs := xi_4 141 rfl rfl
theorem xw_546 : Cond.methodLink RX9 434 yX9_ableBoats ∈ xTs := xi_4 170 rfl rfl
theorem xw_547 : Cond.instanceMethod yX9_ableBoats ∈ xTs := xi_4 172 rfl rfl
theorem xw_548 : Cond.selects RX9 yX9_ableBoats yX9_ableBoats ∈ xTs := xi_0 32 rfl rfl
theorem xw_549 : Cond.code yX9_ableBoats cX9_ableBoats 3 (some .int) ∈ xTs := xi_4 173 rfl rfl
theorem xw_550 : Cond.methodLink RX9 437 yX9_boatsOfKind ∈ xTs := xi_4 174 rfl rfl
theorem xw_551 : Cond.instanceMethod yX9_boatsOfKind ∈ xTs := xi_4 176 rfl rfl
theorem xw_552 : Cond.selects RX9 yX9_boatsOfKind yX9_boatsOfKind ∈ xTs := xi_0 33 rfl rfl
theorem xw_553 : Cond.code yX9_boatsOfKind cX9_boatsOfKind 4 (some .int) ∈ xTs := xi_4 177 rfl rfl
theorem xw_554 : Cond.methodLink RX9 440 yX9_rowsThere ∈ xTs := xi_4 178 rfl rfl
theorem xw_555 : Cond.static yX9_rowsThere ∈ xTs := xi_4 179 rfl rfl
theorem xw_556 : Cond.code yX9_rowsThere cX9_rowsThere 3 (some .int) ∈ xTs := xi_4 180 rfl rfl
theorem xw_557 : Cond.constantLong RX9 447 17 ∈ xTs := xi_4 193 rfl rfl
theorem xw_558 : Cond.constantLong RX9 449 31 ∈ xTs := xi_4 194 rfl rfl
theorem xw_559 : Cond.methodLink RX9 451 yX9_count ∈ xTs := xi_4 195 rfl rfl
theorem xw_560 : Cond.instanceMethod yX9_count ∈ xTs := xi_4 167 rfl rfl
theorem xw_561 : Cond.selects RX9 yX9_count yX9_count ∈ xTs := xi_4 168 rfl rfl
theorem xw_562 : Cond.code yX9_count cX9_count 2 (some .int) ∈ xTs := xi_4 169 rfl rfl
theorem xw_563 : Cond.methodLink RX9 454 yX9_digestBoats ∈ xTs := xi_4 196 rfl rfl
theorem xw_564 : Cond.instanceMethod yX9_digestBoats ∈ xTs := xi_4 198 rfl rfl
theorem xw_565 : Cond.selects RX9 yX9_digestBoats yX9_digestBoats ∈ xTs := xi_0 34 rfl rfl
theorem xw_566 : Cond.code yX9_digestBoats cX9_digestBoats 7 (some .long) ∈ xTs := xi_4 199 rfl rfl
theorem xw_567 : Cond.methodLink RX9 458 yX9_digestWords ∈ xTs := xi_4 200 rfl rfl
theorem xw_568 : Cond.instanceMethod yX9_digestWords ∈ xTs := xi_4 202 rfl rfl
theorem xw_569 : Cond.selects RX9 yX9_digestWords yX9_digestWords ∈ xTs := xi_0 35 rfl rfl
theorem xw_570 : Cond.code yX9_digestWords cX9_digestWords 7 (some .long) ∈ xTs := xi_4 203 rfl rfl
theorem xw_571 : Cond.methodLink RX9 461 yX9_digestLooks ∈ xTs := xi_4 204 rfl rfl
theorem xw_572 : Cond.instanceMethod yX9_digestLooks ∈ xTs := xi_4 206 rfl rfl
theorem xw_573 : Cond.selects RX9 yX9_digestLooks yX9_digestLooks ∈ xTs := xi_0 36 rfl rfl
theorem xw_574 : Cond.code yX9_digestLooks cX9_digestLooks 7 (some .long) ∈ xTs := xi_4 207 rfl rfl
theorem xw_575 : Cond.methodLink RX9 464 yX9_digestRows ∈ xTs := xi_4 208 rfl rfl
theorem xw_576 : Cond.static yX9_digestRows ∈ xTs := xi_4 209 rfl rfl
theorem xw_577 : Cond.code yX9_digestRows cX9_digestRows 7 (some .long) ∈ xTs := xi_4 210 rfl rfl
theorem xw_578 : Cond.methodLink RX10 1 Lib.objectInit ∈ xTs := xi_4 216 rfl rfl
theorem xw_579 : Cond.fieldLink RX10 7 "IceBoatsModel" "findings" "[I" ∈ xTs := xi_4 218 rfl rfl
theorem xw_580 : Cond.fieldLink RX10 13 "IceBoatsModel" "lower" "J" ∈ xTs := xi_4 222 rfl rfl
theorem xw_581 : Cond.fieldLink RX10 17 "IceBoatsModel" "sizes" "[I" ∈ xTs := xi_4 224 rfl rfl
theorem xw_582 : Cond.fieldLink RX10 20 "IceBoatsModel" "rows" "[I" ∈ xTs := xi_4 225 rfl rfl
theorem xw_583 : Cond.fieldLink RX10 23 "IceBoatsModel" "moving" "[I" ∈ xTs := xi_4 226 rfl rfl
theorem xw_584 : Cond.fieldLink RX10 26 "IceBoatsModel" "lengths" "[I" ∈ xTs := xi_4 227 rfl rfl
theorem xw_585 : Cond.fieldLink RX10 29 "IceBoatsModel" "texts" "[I" ∈ xTs := xi_4 228 rfl rfl
theorem xw_586 : Cond.fieldLink RX10 32 "IceBoatsModel" "isRock" "[Z" ∈ xTs := xi_4 229 rfl rfl
theorem xw_587 : Cond.fieldLink RX10 36 "IceBoatsModel" "current" "[I" ∈ xTs := xi_4 230 rfl rfl
theorem xw_588 : Cond.fieldLink RX10 39 "IceBoatsModel" "warmth" "[I" ∈ xTs := xi_4 231 rfl rfl
theorem xw_589 : Cond.fieldLink RX10 42 "IceBoatsModel" "ice" "[I" ∈ xTs := xi_4 232 rfl rfl
theorem xw_590 : Cond.fieldLink RX10 45 "IceBoatsModel" "charts" "[I" ∈ xTs := xi_4 233 rfl rfl
theorem xw_591 : Cond.fieldLink RX10 48 "IceBoatsModel" "lots" "I" ∈ xTs := xi_4 235 rfl rfl
theorem xw_592 : Cond.fieldLink RX10 52 "IceBoatsModel" "times" "[I" ∈ xTs := xi_4 236 rfl rfl
theorem xw_593 : Cond.fieldLink RX10 55 "IceBoatsModel" "kinds" "[I" ∈ xTs := xi_4 237 rfl rfl
theorem xw_594 : Cond.fieldLink RX10 58 "IceBoatsModel" "cellOf" "[I" ∈ xTs := xi_4 238 rfl rfl
theorem xw_595 : Cond.fieldLink RX10 61 "IceBoatsModel" "power" "[I" ∈ xTs := xi_4 239 rfl rfl
theorem xw_596 : Cond.fieldLink RX10 64 "IceBoatsModel" "coulds" "[J" ∈ xTs := xi_5 0 rfl rfl
theorem xw_597 : Cond.fieldLink RX10 68 "IceBoatsModel" "wayTold" "[I" ∈ xTs := xi_5 1 rfl rfl
theorem xw_598 : Cond.fieldLink RX10 71 "IceBoatsModel" "heardAt" "[I" ∈ xTs := xi_5 2 rfl rfl
theorem xw_599 : Cond.fieldLink RX10 74 "IceBoatsModel" "saidAt" "[I" ∈ xTs := xi_5 3 rfl rfl
theorem xw_600 : Cond.fieldLink RX10 77 "IceBoatsModel" "saidMany" "[I" ∈ xTs := xi_5 4 rfl rfl
theorem xw_601 : Cond.fieldLink RX10 80 "IceBoatsModel" "lookMany" "[I" ∈ xTs := xi_5 5 rfl rfl
theorem xw_602 : Cond.fieldLink RX10 83 "IceBoatsModel" "since" "[I" ∈ xTs := xi_5 6 rfl rfl
theorem xw_603 : Cond.fieldLink RX10 86 "IceBoatsModel" "lookCell" "[I" ∈ xTs := xi_5 8 rfl rfl
theorem xw_604 : Cond.fieldLink RX10 89 "IceBoatsModel" "lookIce" "[I" ∈ xTs := xi_5 9 rfl rfl
theorem xw_605 : Cond.fieldLink RX10 92 "IceBoatsModel" "lookHeld" "[I" ∈ xTs := xi_5 10 rfl rfl
theorem xw_606 : Cond.fieldLink RX10 95 "IceBoatsModel" "lookTick" "[I" ∈ xTs := xi_5 11 rfl rfl
theorem xw_607 : Cond.fieldLink RX10 98 "IceBoatsModel" "lookBy" "[I" ∈ xTs := xi_5 12 rfl rfl
theorem xw_608 : Cond.fieldLink RX10 101 "IceBoatsModel" "wordKind" "[I" ∈ xTs := xi_5 14 rfl rfl
theorem xw_609 : Cond.fieldLink RX10 104 "IceBoatsModel" "wordBy" "[I" ∈ xTs := xi_5 15 rfl rfl
theorem xw_610 : Cond.fieldLink RX10 107 "IceBoatsModel" "wordTick" "[I" ∈ xTs := xi_5 16 rfl rfl
theorem xw_611 : Cond.fieldLink RX10 110 "IceBoatsModel" "wordOf" "[I" ∈ xTs := xi_5 17 rfl rfl
theorem xw_612 : Cond.fieldLink RX10 113 "IceBoatsModel" "wordCould" "[J" ∈ xTs := xi_5 18 rfl rfl
theorem xw_613 : Cond.fieldLink RX10 116 "IceBoatsModel" "comes" "[I" ∈ xTs := xi_5 19 rfl rfl
theorem xw_614 : Cond.fieldLink RX10 119 "IceBoatsModel" "isHow" "[I" ∈ xTs := xi_5 20 rfl rfl
theorem xw_615 : Cond.fieldLink RX10 122 "IceBoatsModel" "ruleOf" "[I" ∈ xTs := xi_5 21 rfl rfl
theorem xw_616 : Cond.fieldLink RX10 125 "IceBoatsModel" "items" "[I" ∈ xTs := xi_5 22 rfl rfl
theorem xw_617 : Cond.fieldLink RX10 128 "IceBoatsModel" "planned" "[I" ∈ xTs := xi_5 23 rfl rfl
theorem xw_618 : Cond.fieldLink RX10 131 "IceBoatsModel" "by" "[J" ∈ xTs := xi_5 24 rfl rfl
theorem xw_619 : Cond.fieldLink RX10 134 "IceBoatsModel" "shares" "[J" ∈ xTs := xi_5 25 rfl rfl
theorem xw_620 : Cond.fieldLink RX10 137 "IceBoatsModel" "nextShares" "[J" ∈ xTs := xi_5 26 rfl rfl
theorem xw_621 : Cond.methodLink RX10 154 yX10_isRow ∈ xTs := xi_5 135 rfl rfl
theorem xw_622 : Cond.static yX10_isRow ∈ xTs := xi_5 136 rfl rfl
theorem xw_623 : Cond.initialized RX10 ∈ xTs := xi_1 9 rfl rfl
theorem xw_624 : Cond.code yX10_isRow cX10_isRow 1 (some .boolean) ∈ xTs := xi_5 137 rfl rfl
theorem xw_625 : Cond.methodLink RX10 158 yX10_meets ∈ xTs := xi_5 141 rfl rfl
theorem xw_626 : Cond.instanceMethod yX10_meets ∈ xTs := xi_5 143 rfl rfl
theorem xw_627 : Cond.selects RX10 yX10_meets yX10_meets ∈ xTs := xi_0 37 rfl rfl
theorem xw_628 : Cond.code yX10_meets cX10_meets 2 (some .int) ∈ xTs := xi_5 144 rfl rfl
theorem xw_629 : Cond.methodLink RX10 146 yX10_in ∈ xTs := xi_5 138 rfl rfl
theorem xw_630 : Cond.static yX10_in ∈ xTs := xi_5 139 rfl rfl
theorem xw_631 : Cond.code yX10_in cX10_in 3 (some .boolean) ∈ xTs := xi_5 140 rfl rfl
theorem xw_632 : Cond.fieldLink RX10 140 "IceBoatsModel" "finding" "I" ∈ xTs := xi_4 217 rfl rfl
theorem xw_633 : Cond.methodLink RX10 165 yX10_askedRow ∈ xTs := xi_5 149 rfl rfl
theorem xw_634 : Cond.instanceMethod yX10_askedRow ∈ xTs := xi_5 151 rfl rfl
theorem xw_635 : Cond.selects RX10 yX10_askedRow yX10_askedRow ∈ xTs := xi_0 38 rfl rfl
theorem xw_636 : Cond.code yX10_askedRow cX10_askedRow 2 (some .int) ∈ xTs := xi_5 152 rfl rfl
theorem xw_637 : Cond.methodLink RX10 168 yX10_rowAt ∈ xTs := xi_5 153 rfl rfl
theorem xw_638 : Cond.instanceMethod yX10_rowAt ∈ xTs := xi_5 155 rfl rfl
theorem xw_639 : Cond.selects RX10 yX10_rowAt yX10_rowAt ∈ xTs := xi_0 39 rfl rfl
theorem xw_640 : Cond.code yX10_rowAt cX10_rowAt 3 (some .int) ∈ xTs := xi_5 156 rfl rfl
theorem xw_641 : Cond.fieldLink RX10 143 "IceBoatsModel" "asked" "I" ∈ xTs := xi_4 219 rfl rfl
theorem xw_642 : Cond.methodLink RX10 172 yX10_ask ∈ xTs := xi_5 169 rfl rfl
theorem xw_643 : Cond.instanceMethod yX10_ask ∈ xTs := xi_5 171 rfl rfl
theorem xw_644 : Cond.selects RX10 yX10_ask yX10_ask ∈ xTs := xi_0 40 rfl rfl
theorem xw_645 : Cond.code yX10_ask cX10_ask 3 (some .int) ∈ xTs := xi_5 172 rfl rfl
theorem xw_646 : Cond.methodLink RX10 162 yX10_isText ∈ xTs := xi_5 177 rfl rfl
theorem xw_647 : Cond.static yX10_isText ∈ xTs := xi_5 178 rfl rfl
theorem xw_648 : Cond.code yX10_isText cX10_isText 1 (some .boolean) ∈ xTs := xi_5 179 rfl rfl
theorem xw_649 : Cond.methodLink RX10 175 yX10_askedText ∈ xTs := xi_5 184 rfl rfl
theorem xw_650 : Cond.instanceMethod yX10_askedText ∈ xTs := xi_5 186 rfl rfl
theorem xw_651 : Cond.selects RX10 yX10_askedText yX10_askedText ∈ xTs := xi_0 41 rfl rfl
theorem xw_652 : Cond.code yX10_askedText cX10_askedText 2 (some .int) ∈ xTs := xi_5 187 rfl rfl
theorem xw_653 : Cond.methodLink RX10 181 yX10_isCell ∈ xTs := xi_5 192 rfl rfl
theorem xw_654 : Cond.static yX10_isCell ∈ xTs := xi_5 193 rfl rfl
theorem xw_655 : Cond.code yX10_isCell cX10_isCell 1 (some .boolean) ∈ xTs := xi_5 194 rfl rfl
theorem xw_656 : Cond.methodLink RX10 184 yX10_isTaken ∈ xTs := xi_5 195 rfl rfl
theorem xw_657 : Cond.instanceMethod yX10_isTaken ∈ xTs := xi_5 197 rfl rfl
theorem xw_658 : Cond.selects RX10 yX10_isTaken yX10_isTaken ∈ xTs := xi_0 42 rfl rfl
theorem xw_659 : Cond.code yX10_isTaken cX10_isTaken 4 (some .boolean) ∈ xTs := xi_5 198 rfl rfl
theorem xw_660 : Cond.fieldLink RX10 178 "IceBoatsModel" "holeAt" "I" ∈ xTs := xi_4 234 rfl rfl
theorem xw_661 : Cond.methodLink RX10 187 yX10_isWay ∈ xTs := xi_5 203 rfl rfl
theorem xw_662 : Cond.static yX10_isWay ∈ xTs := xi_5 204 rfl rfl
theorem xw_663 : Cond.code yX10_isWay cX10_isWay 1 (some .boolean) ∈ xTs := xi_5 205 rfl rfl
theorem xw_664 : Cond.methodLink RX10 190 yX10_isIce ∈ xTs := xi_5 206 rfl rfl
theorem xw_665 : Cond.static yX10_isIce ∈ xTs := xi_5 207 rfl rfl
theorem xw_666 : Cond.code yX10_isIce cX10_isIce 1 (some .boolean) ∈ xTs := xi_5 208 rfl rfl
theorem xw_667 : Cond.methodLink RX10 193 yX10_seaTells ∈ xTs := xi_5 213 rfl rfl
theorem xw_668 : Cond.instanceMethod yX10_seaTells ∈ xTs := xi_5 215 rfl rfl
theorem xw_669 : Cond.selects RX10 yX10_seaTells yX10_seaTells ∈ xTs := xi_0 43 rfl rfl
theorem xw_670 : Cond.code yX10_seaTells cX10_seaTells 3 (some .int) ∈ xTs := xi_5 216 rfl rfl
theorem xw_671 : Cond.methodLink RX10 200 yX10_setTimes ∈ xTs := xi_5 233 rfl rfl
theorem xw_672 : Cond.instanceMethod yX10_setTimes ∈ xTs := xi_5 235 rfl rfl
theorem xw_673 : Cond.selects RX10 yX10_setTimes yX10_setTimes ∈ xTs := xi_0 44 rfl rfl
theorem xw_674 : Cond.code yX10_setTimes cX10_setTimes 6 none ∈ xTs := xi_5 236 rfl rfl
theorem xw_675 : Cond.constant RX10 196 100000 ∈ xTs := xi_5 237 rfl rfl
theorem xw_676 : Cond.methodLink RX10 197 yX10_leads ∈ xTs := xi_5 238 rfl rfl
theorem xw_677 : Cond.instanceMethod yX10_leads ∈ xTs := xi_6 0 rfl rfl
theorem xw_678 : Cond.selects RX10 yX10_leads yX10_leads ∈ xTs := xi_0 45 rfl rfl
theorem xw_679 : Cond.code yX10_leads cX10_leads 4 (some .int) ∈ xTs := xi_6 1 rfl rfl
theorem xw_680 : Cond.methodLink RX10 204 yX10_isBoat ∈ xTs := xi_6 6 rfl rfl
theorem xw_681 : Cond.static yX10_isBoat ∈ xTs := xi_6 7 rfl rfl
theorem xw_682 : Cond.code yX10_isBoat cX10_isBoat 1 (some .boolean) ∈ xTs := xi_6 8 rfl rfl
theorem xw_683 : Cond.fieldLink RX10 207 "IceBoatsModel" "now" "I" ∈ xTs := xi_4 223 rfl rfl
theorem xw_684 : Cond.methodLink RX10 220 yX10_boatTells ∈ xTs := xi_6 13 rfl rfl
theorem xw_685 : Cond.instanceMethod yX10_boatTells ∈ xTs := xi_6 15 rfl rfl
theorem xw_686 : Cond.selects RX10 yX10_boatTells yX10_boatTells ∈ xTs := xi_0 46 rfl rfl
theorem xw_687 : Cond.code yX10_boatTells cX10_boatTells 3 (some .int) ∈ xTs := xi_6 16 rfl rfl
theorem xw_688 : Cond.methodLink RX10 213 yX10_many ∈ xTs := xi_6 17 rfl rfl
theorem xw_689 : Cond.static yX10_many ∈ xTs := xi_6 18 rfl rfl
theorem xw_690 : Cond.code yX10_many cX10_many 4 (some .int) ∈ xTs := xi_6 19 rfl rfl
theorem xw_691 : Cond.methodLink RX10 217 yX10_heldBy ∈ xTs := xi_6 23 rfl rfl
theorem xw_692 : Cond.instanceMethod yX10_heldBy ∈ xTs := xi_6 25 rfl rfl
theorem xw_693 : Cond.selects RX10 yX10_heldBy yX10_heldBy ∈ xTs := xi_0 47 rfl rfl
theorem xw_694 : Cond.code yX10_heldBy cX10_heldBy 4 (some .int) ∈ xTs := xi_6 26 rfl rfl
theorem xw_695 : Cond.methodLink RX10 150 yX10_has ∈ xTs := xi_6 20 rfl rfl
theorem xw_696 : Cond.static yX10_has ∈ xTs := xi_6 21 rfl rfl
theorem xw_697 : Cond.code yX10_has cX10_has 3 (some .boolean) ∈ xTs := xi_6 22 rfl rfl
theorem xw_698 : Cond.fieldLink RX10 210 "IceBoatsModel" "looks" "I" ∈ xTs := xi_5 7 rfl rfl
theorem xw_699 : Cond.fieldLink RX10 223 "IceBoatsModel" "cellSet" "J" ∈ xTs := xi_4 220 rfl rfl
theorem xw_700 : Cond.methodLink RX10 226 yX10_isAble ∈ xTs := xi_6 39 rfl rfl
theorem xw_701 : Cond.instanceMethod yX10_isAble ∈ xTs := xi_6 41 rfl rfl
theorem xw_702 : Cond.selects RX10 yX10_isAble yX10_isAble ∈ xTs := xi_0 48 rfl rfl
theorem xw_703 : Cond.code yX10_isAble cX10_isAble 2 (some .boolean) ∈ xTs := xi_6 42 rfl rfl
theorem xw_704 : Cond.methodLink RX10 234 yX10_moves ∈ xTs := xi_6 47 rfl rfl
theorem xw_705 : Cond.instanceMethod yX10_moves ∈ xTs := xi_6 49 rfl rfl
theorem xw_706 : Cond.selects RX10 yX10_moves yX10_moves ∈ xTs := xi_0 49 rfl rfl
theorem xw_707 : Cond.code yX10_moves cX10_moves 7 none ∈ xTs := xi_6 50 rfl rfl
theorem xw_708 : Cond.methodLink RX10 237 yX10_hears ∈ xTs := xi_6 56 rfl rfl
theorem xw_709 : Cond.instanceMethod yX10_hears ∈ xTs := xi_6 58 rfl rfl
theorem xw_710 : Cond.selects RX10 yX10_hears yX10_hears ∈ xTs := xi_0 51 rfl rfl
theorem xw_711 : Cond.code yX10_hears cX10_hears 5 (some .int) ∈ xTs := xi_6 59 rfl rfl
theorem xw_712 : Cond.methodLink RX10 230 yX10_isCarried ∈ xTs := xi_6 51 rfl rfl
theorem xw_713 : Cond.instanceMethod yX10_isCarried ∈ xTs := xi_6 53 rfl rfl
theorem xw_714 : Cond.selects RX10 yX10_isCarried yX10_isCarried ∈ xTs := xi_0 50 rfl rfl
theorem xw_715 : Cond.code yX10_isCarried cX10_isCarried 1 (some .boolean) ∈ xTs := xi_6 54 rfl rfl
theorem xw_716 : Cond.constant RX10 229 1103515245 ∈ xTs := xi_6 55 rfl rfl
theorem xw_717 : Cond.fieldLink RX10 250 "IceBoatsModel" "words" "I" ∈ xTs := xi_5 13 rfl rfl
theorem xw_718 : Cond.methodLink RX10 253 yX10_takes ∈ xTs := xi_6 60 rfl rfl
theorem xw_719 : Cond.instanceMethod yX10_takes ∈ xTs := xi_6 62 rfl rfl
theorem xw_720 : Cond.selects RX10 yX10_takes yX10_takes ∈ xTs := xi_0 52 rfl rfl
theorem xw_721 : Cond.code yX10_takes cX10_takes 4 none ∈ xTs := xi_6 63 rfl rfl
theorem xw_722 : Cond.methodLink RX10 263 yX10_keepsFar ∈ xTs := xi_6 64 rfl rfl
theorem xw_723 : Cond.instanceMethod yX10_keepsFar ∈ xTs := xi_6 66 rfl rfl
theorem xw_724 : Cond.selects RX10 yX10_keepsFar yX10_keepsFar ∈ xTs := xi_0 53 rfl rfl
theorem xw_725 : Cond.code yX10_keepsFar cX10_keepsFar 8 none ∈ xTs := xi_6 67 rfl rfl
theorem xw_726 : Cond.methodLink RX10 266 yX10_nearer ∈ xTs := xi_6 68 rfl rfl
theorem xw_727 : Cond.instanceMethod yX10_nearer ∈ xTs := xi_6 70 rfl rfl
theorem xw_728 : Cond.selects RX10 yX10_nearer yX10_nearer ∈ xTs := xi_0 54 rfl rfl
theorem xw_729 : Cond.code yX10_nearer cX10_nearer 5 (some .int) ∈ xTs := xi_6 71 rfl rfl
theorem xw_730 : Cond.methodLink RX10 257 yX10_least ∈ xTs := xi_6 72 rfl rfl
theorem xw_731 : Cond.static yX10_least ∈ xTs := xi_6 73 rfl rfl
theorem xw_732 : Cond.code yX10_least cX10_least 3 (some .int) ∈ xTs := xi_6 74 rfl rfl
theorem xw_733 : Cond.methodLink RX10 260 yX10_apart ∈ xTs := xi_6 75 rfl rfl
theorem xw_734 : Cond.static yX10_apart ∈ xTs := xi_6 76 rfl rfl
theorem xw_735 : Cond.code yX10_apart cX10_apart 4 (some .int) ∈ xTs := xi_6 77 rfl rfl
theorem xw_736 : Cond.methodLink RX10 240 yX10_isLook ∈ xTs := xi_6 86 rfl rfl
theorem xw_737 : Cond.instanceMethod yX10_isLook ∈ xTs := xi_6 88 rfl rfl
theorem xw_738 : Cond.selects RX10 yX10_isLook yX10_isLook ∈ xTs := xi_0 55 rfl rfl
theorem xw_739 : Cond.code yX10_isLook cX10_isLook 2 (some .boolean) ∈ xTs := xi_6 89 rfl rfl
theorem xw_740 : Cond.methodLink RX10 243 yX10_lookTells ∈ xTs := xi_6 90 rfl rfl
theorem xw_741 : Cond.instanceMethod yX10_lookTells ∈ xTs := xi_6 92 rfl rfl
theorem xw_742 : Cond.selects RX10 yX10_lookTells yX10_lookTells ∈ xTs := xi_0 56 rfl rfl
theorem xw_743 : Cond.code yX10_lookTells cX10_lookTells 3 (some .int) ∈ xTs := xi_6 93 rfl rfl
theorem xw_744 : Cond.methodLink RX10 246 yX10_isSaid ∈ xTs := xi_6 106 rfl rfl
theorem xw_745 : Cond.instanceMethod yX10_isSaid ∈ xTs := xi_6 108 rfl rfl
theorem xw_746 : Cond.selects RX10 yX10_isSaid yX10_isSaid ∈ xTs := xi_0 57 rfl rfl
theorem xw_747 : Cond.code yX10_isSaid cX10_isSaid 3 (some .boolean) ∈ xTs := xi_6 109 rfl rfl
theorem xw_748 : Cond.methodLink RX10 269 yX10_isWord ∈ xTs := xi_6 114 rfl rfl
theorem xw_749 : Cond.instanceMethod yX10_isWord ∈ xTs := xi_6 116 rfl rfl
theorem xw_750 : Cond.selects RX10 yX10_isWord yX10_isWord ∈ xTs := xi_0 58 rfl rfl
theorem xw_751 : Cond.code yX10_isWord cX10_isWord 2 (some .boolean) ∈ xTs := xi_6 117 rfl rfl
theorem xw_752 : Cond.methodLink RX10 272 yX10_wordTells ∈ xTs := xi_6 118 rfl rfl
theorem xw_753 : Cond.instanceMethod yX10_wordTells ∈ xTs := xi_6 120 rfl rfl
theorem xw_754 : Cond.selects RX10 yX10_wordTells yX10_wordTells ∈ xTs := xi_0 59 rfl rfl
theorem xw_755 : Cond.code yX10_wordTells cX10_wordTells 3 (some .int) ∈ xTs := xi_6 121 rfl rfl
theorem xw_756 : Cond.methodLink RX10 282 yX10_knowsOf ∈ xTs := xi_6 134 rfl rfl
theorem xw_757 : Cond.instanceMethod yX10_knowsOf ∈ xTs := xi_6 136 rfl rfl
theorem xw_758 : Cond.selects RX10 yX10_knowsOf yX10_knowsOf ∈ xTs := xi_0 60 rfl rfl
theorem xw_759 : Cond.code yX10_knowsOf cX10_knowsOf 5 (some .int) ∈ xTs := xi_6 137 rfl rfl
theorem xw_760 : Cond.methodLink RX10 275 yX10_knowsAt ∈ xTs := xi_6 138 rfl rfl
theorem xw_761 : Cond.instanceMethod yX10_knowsAt ∈ xTs := xi_6 140 rfl rfl
theorem xw_762 : Cond.selects RX10 yX10_knowsAt yX10_knowsAt ∈ xTs := xi_0 61 rfl rfl
theorem xw_763 : Cond.code yX10_knowsAt cX10_knowsAt 3 (some .int) ∈ xTs := xi_6 141 rfl rfl
theorem xw_764 : Cond.methodLink RX10 278 yX10_learns ∈ xTs := xi_6 142 rfl rfl
theorem xw_765 : Cond.instanceMethod yX10_learns ∈ xTs := xi_6 144 rfl rfl
theorem xw_766 : Cond.selects RX10 yX10_learns yX10_learns ∈ xTs := xi_0 62 rfl rfl
theorem xw_767 : Cond.code yX10_learns cX10_learns 7 (some .int) ∈ xTs := xi_6 145 rfl rfl
theorem xw_768 : Cond.methodLink RX10 289 yX10_reads ∈ xTs := xi_6 154 rfl rfl
theorem xw_769 : Cond.instanceMethod yX10_reads ∈ xTs := xi_6 156 rfl rfl
theorem xw_770 : Cond.selects RX10 yX10_reads yX10_reads ∈ xTs := xi_0 63 rfl rfl
theorem xw_771 : Cond.code yX10_reads cX10_reads 6 (some .int) ∈ xTs := xi_6 157 rfl rfl
theorem xw_772 : Cond.methodLink RX10 286 yX10_letter ∈ xTs := xi_6 158 rfl rfl
theorem xw_773 : Cond.static yX10_letter ∈ xTs := xi_6 159 rfl rfl
theorem xw_774 : Cond.code yX10_letter cX10_letter 1 (some .int) ∈ xTs := xi_6 160 rfl rfl
theorem xw_775 : Cond.methodLink RX10 292 yX10_isMap ∈ xTs := xi_6 177 rfl rfl
theorem xw_776 : Cond.instanceMethod yX10_isMap ∈ xTs := xi_6 179 rfl rfl
theorem xw_777 : Cond.selects RX10 yX10_isMap yX10_isMap ∈ xTs := xi_0 64 rfl rfl
theorem xw_778 : Cond.code yX10_isMap cX10_isMap 4 (some .boolean) ∈ xTs := xi_6 180 rfl rfl
theorem xw_779 : Cond.methodLink RX10 295 yX10_agrees ∈ xTs := xi_6 181 rfl rfl
theorem xw_780 : Cond.instanceMethod yX10_agrees ∈ xTs := xi_6 183 rfl rfl
theorem xw_781 : Cond.selects RX10 yX10_agrees yX10_agrees ∈ xTs := xi_0 65 rfl rfl
theorem xw_782 : Cond.code yX10_agrees cX10_agrees 11 (some .int) ∈ xTs := xi_6 184 rfl rfl
theorem xw_783 : Cond.methodLink RX10 298 yX10_areWays ∈ xTs := xi_6 193 rfl rfl
theorem xw_784 : Cond.instanceMethod yX10_areWays ∈ xTs := xi_6 195 rfl rfl
theorem xw_785 : Cond.selects RX10 yX10_areWays yX10_areWays ∈ xTs := xi_0 66 rfl rfl
theorem xw_786 : Cond.code yX10_areWays cX10_areWays 5 (some .boolean) ∈ xTs := xi_6 196 rfl rfl
theorem xw_787 : Cond.methodLink RX10 301 yX10_comesBy ∈ xTs := xi_6 197 rfl rfl
theorem xw_788 : Cond.instanceMethod yX10_comesBy ∈ xTs := xi_6 199 rfl rfl
theorem xw_789 : Cond.selects RX10 yX10_comesBy yX10_comesBy ∈ xTs := xi_0 67 rfl rfl
theorem xw_790 : Cond.code yX10_comesBy cX10_comesBy 8 (some .long) ∈ xTs := xi_6 200 rfl rfl
theorem xw_791 : Cond.methodLink RX10 308 yX10_askedWays ∈ xTs := xi_6 205 rfl rfl
theorem xw_792 : Cond.instanceMethod yX10_askedWays ∈ xTs := xi_6 207 rfl rfl
theorem xw_793 : Cond.selects RX10 yX10_askedWays yX10_askedWays ∈ xTs := xi_0 68 rfl rfl
theorem xw_794 : Cond.code yX10_askedWays cX10_askedWays 4 (some .int) ∈ xTs := xi_6 208 rfl rfl
theorem xw_795 : Cond.constantLong RX10 311 4 ∈ xTs := xi_6 209 rfl rfl
theorem xw_796 : Cond.constantLong RX10 313 3 ∈ xTs := xi_6 210 rfl rfl
theorem xw_797 : Cond.methodLink RX10 315 yX10_share ∈ xTs := xi_6 211 rfl rfl
theorem xw_798 : Cond.instanceMethod yX10_share ∈ xTs := xi_6 213 rfl rfl
theorem xw_799 : Cond.selects RX10 yX10_share yX10_share ∈ xTs := xi_0 69 rfl rfl
theorem xw_800 : Cond.code yX10_share cX10_share 11 (some .int) ∈ xTs := xi_6 214 rfl rfl
theorem xw_801 : Cond.fieldLink RX10 305 "IceBoatsModel" "upper" "J" ∈ xTs := xi_4 221 rfl rfl
theorem xw_802 : Cond.methodLink RX10 319 yX10_isCourse ∈ xTs := xi_6 219 rfl rfl
theorem xw_803 : Cond.instanceMethod yX10_isCourse ∈ xTs := xi_6 221 rfl rfl
theorem xw_804 : Cond.selects RX10 yX10_isCourse yX10_isCourse ∈ xTs := xi_0 70 rfl rfl
theorem xw_805 : Cond.code yX10_isCourse cX10_isCourse 10 (some .boolean) ∈ xTs := xi_6 222 rfl rfl
theorem xw_806 : Cond.methodLink RX10 323 yX10_counts ∈ xTs := xi_7 3 rfl rfl
theorem xw_807 : Cond.instanceMethod yX10_counts ∈ xTs := xi_7 5 rfl rfl
theorem xw_808 : Cond.selects RX10 yX10_counts yX10_counts ∈ xTs := xi_0 71 rfl rfl
theorem xw_809 : Cond.code yX10_counts cX10_counts 4 (some .int) ∈ xTs := xi_7 6 rfl rfl
theorem xw_810 : Cond.constantLong RX10 335 17 ∈ xTs := xi_7 19 rfl rfl
theorem xw_811 : Cond.fieldLink RX10 328 "IceBoatsModel" "h" "J" ∈ xTs := xi_5 27 rfl rfl
theorem xw_812 : Cond.methodLink RX10 331 yX10_mix ∈ xTs := xi_7 20 rfl rfl
theorem xw_813 : Cond.instanceMethod yX10_mix ∈ xTs := xi_7 22 rfl rfl
theorem xw_814 : Cond.selects RX10 yX10_mix yX10_mix ∈ xTs := xi_0 72 rfl rfl
theorem xw_815 : Cond.code yX10_mix cX10_mix 3 none ∈ xTs := xi_7 23 rfl rfl
theorem xw_816 : Cond.methodLink RX10 337 yX10_mixBoats ∈ xTs := xi_7 25 rfl rfl
theorem xw_817 : Cond.instanceMethod yX10_mixBoats ∈ xTs := xi_7 27 rfl rfl
theorem xw_818 : Cond.selects RX10 yX10_mixBoats yX10_mixBoats ∈ xTs := xi_0 73 rfl rfl
theorem xw_819 : Cond.code yX10_mixBoats cX10_mixBoats 3 none ∈ xTs := xi_7 28 rfl rfl
theorem xw_820 : Cond.methodLink RX10 340 yX10_mixWords ∈ xTs := xi_7 29 rfl rfl
theorem xw_821 : Cond.instanceMethod yX10_mixWords ∈ xTs := xi_7 31 rfl rfl
theorem xw_822 : Cond.selects RX10 yX10_mixWords yX10_mixWords ∈ xTs := xi_0 74 rfl rfl
theorem xw_823 : Cond.code yX10_mixWords cX10_mixWords 3 none ∈ xTs := xi_7 32 rfl rfl
theorem xw_824 : Cond.constantLong RX10 343 (-1) ∈ xTs := xi_7 33 rfl rfl
theorem xw_825 : Cond.constantLong RX10 326 31 ∈ xTs := xi_7 24 rfl rfl
theorem xw_826 : Cond.classLink "IceBoatsLaw" 7 RX9 ∈ xTs := xi_1 16 rfl rfl
theorem xw_827 : Cond.instantiable RX9 19 ∈ xTs := xi_1 17 rfl rfl
theorem xw_828 : Cond.methodLink "IceBoatsLaw" 9 yX9_init ∈ xTs := xi_1 18 rfl rfl
theorem xw_829 : Cond.instanceMethod yX9_init ∈ xTs := xi_1 19 rfl rfl
theorem xw_830 : Cond.code yX9_init cX9_init 2 none ∈ xTs := xi_1 20 rfl rfl
theorem xw_831 : Cond.classLink "IceBoatsLaw" 10 RX10 ∈ xTs := xi_4 211 rfl rfl
theorem xw_832 : Cond.instantiable RX10 51 ∈ xTs := xi_4 212 rfl rfl
theorem xw_833 : Cond.methodLink "IceBoatsLaw" 12 yX10_init ∈ xTs := xi_4 213 rfl rfl
theorem xw_834 : Cond.instanceMethod yX10_init ∈ xTs := xi_4 214 rfl rfl
theorem xw_835 : Cond.code yX10_init cX10_init 2 none ∈ xTs := xi_4 215 rfl rfl
theorem xw_836 : Cond.methodLink "IceBoatsLaw" 13 yX9_row ∈ xTs := xi_2 25 rfl rfl
theorem xw_837 : Cond.instanceMethod yX9_row ∈ xTs := xi_2 26 rfl rfl
theorem xw_838 : Cond.selects RX9 yX9_row yX9_row ∈ xTs := xi_2 27 rfl rfl
theorem xw_839 : Cond.code yX9_row cX9_row 4 (some .int) ∈ xTs := xi_2 28 rfl rfl
theorem xw_840 : Cond.methodLink "IceBoatsLaw" 17 yX10_row ∈ xTs := xi_5 131 rfl rfl
theorem xw_841 : Cond.instanceMethod yX10_row ∈ xTs := xi_5 132 rfl rfl
theorem xw_842 : Cond.selects RX10 yX10_row yX10_row ∈ xTs := xi_5 133 rfl rfl
theorem xw_843 : Cond.code yX10_row cX10_row 4 (some .int) ∈ xTs := xi_5 134 rfl rfl
theorem xw_844 : Cond.methodLink "IceBoatsLaw" 18 yX9_lay ∈ xTs := xi_2 41 rfl rfl
theorem xw_845 : Cond.instanceMethod yX9_lay ∈ xTs := xi_2 42 rfl rfl
theorem xw_846 : Cond.selects RX9 yX9_lay yX9_lay ∈ xTs := xi_2 43 rfl rfl
theorem xw_847 : Cond.code yX9_lay cX9_lay 6 (some .int) ∈ xTs := xi_2 44 rfl rfl
theorem xw_848 : Cond.methodLink "IceBoatsLaw" 22 yX10_lay ∈ xTs := xi_5 145 rfl rfl
theorem xw_849 : Cond.instanceMethod yX10_lay ∈ xTs := xi_5 146 rfl rfl
theorem xw_850 : Cond.selects RX10 yX10_lay yX10_lay ∈ xTs := xi_5 147 rfl rfl
theorem xw_851 : Cond.code yX10_lay cX10_lay 5 (some .int) ∈ xTs := xi_5 148 rfl rfl
theorem xw_852 : Cond.methodLink "IceBoatsLaw" 23 yX9_tear ∈ xTs := xi_2 57 rfl rfl
theorem xw_853 : Cond.instanceMethod yX9_tear ∈ xTs := xi_2 58 rfl rfl
theorem xw_854 : Cond.selects RX9 yX9_tear yX9_tear ∈ xTs := xi_2 59 rfl rfl
theorem xw_855 : Cond.code yX9_tear cX9_tear 3 (some .int) ∈ xTs := xi_2 60 rfl rfl
theorem xw_856 : Cond.methodLink "IceBoatsLaw" 27 yX10_tear ∈ xTs := xi_5 157 rfl rfl
theorem xw_857 : Cond.instanceMethod yX10_tear ∈ xTs := xi_5 158 rfl rfl
theorem xw_858 : Cond.selects RX10 yX10_tear yX10_tear ∈ xTs := xi_5 159 rfl rfl
theorem xw_859 : Cond.code yX10_tear cX10_tear 3 (some .int) ∈ xTs := xi_5 160 rfl rfl
theorem xw_860 : Cond.methodLink "IceBoatsLaw" 28 yX9_copy ∈ xTs := xi_2 61 rfl rfl
theorem xw_861 : Cond.instanceMethod yX9_copy ∈ xTs := xi_2 62 rfl rfl
theorem xw_862 : Cond.selects RX9 yX9_copy yX9_copy ∈ xTs := xi_2 63 rfl rfl
theorem xw_863 : Cond.code yX9_copy cX9_copy 8 (some .int) ∈ xTs := xi_2 64 rfl rfl
theorem xw_864 : Cond.methodLink "IceBoatsLaw" 32 yX10_copy ∈ xTs := xi_5 161 rfl rfl
theorem xw_865 : Cond.instanceMethod yX10_copy ∈ xTs := xi_5 162 rfl rfl
theorem xw_866 : Cond.selects RX10 yX10_copy yX10_copy ∈ xTs := xi_5 163 rfl rfl
theorem xw_867 : Cond.code yX10_copy cX10_copy 7 (some .int) ∈ xTs := xi_5 164 rfl rfl
theorem xw_868 : Cond.methodLink "IceBoatsLaw" 33 yX9_mean ∈ xTs := xi_2 68 rfl rfl
theorem xw_869 : Cond.instanceMethod yX9_mean ∈ xTs := xi_2 69 rfl rfl
theorem xw_870 : Cond.selects RX9 yX9_mean yX9_mean ∈ xTs := xi_2 70 rfl rfl
theorem xw_871 : Cond.code yX9_mean cX9_mean 6 (some .int) ∈ xTs := xi_2 71 rfl rfl
theorem xw_872 : Cond.methodLink "IceBoatsLaw" 36 yX10_mean ∈ xTs := xi_5 165 rfl rfl
theorem xw_873 : Cond.instanceMethod yX10_mean ∈ xTs := xi_5 166 rfl rfl
theorem xw_874 : Cond.selects RX10 yX10_mean yX10_mean ∈ xTs := xi_5 167 rfl rfl
theorem xw_875 : Cond.code yX10_mean cX10_mean 6 (some .int) ∈ xTs := xi_5 168 rfl rfl
theorem xw_876 : Cond.methodLink "IceBoatsLaw" 37 yX9_text ∈ xTs := xi_2 72 rfl rfl
theorem xw_877 : Cond.instanceMethod yX9_text ∈ xTs := xi_2 73 rfl rfl
theorem xw_878 : Cond.selects RX9 yX9_text yX9_text ∈ xTs := xi_2 74 rfl rfl
theorem xw_879 : Cond.code yX9_text cX9_text 4 (some .int) ∈ xTs := xi_2 75 rfl rfl
theorem xw_880 : Cond.methodLink "IceBoatsLaw" 40 yX10_text ∈ xTs := xi_5 173 rfl rfl
theorem xw_881 : Cond.instanceMethod yX10_text ∈ xTs := xi_5 174 rfl rfl
theorem xw_882 : Cond.selects RX10 yX10_text yX10_text ∈ xTs := xi_5 175 rfl rfl
theorem xw_883 : Cond.code yX10_text cX10_text 4 (some .int) ∈ xTs := xi_5 176 rfl rfl
theorem xw_884 : Cond.methodLink "IceBoatsLaw" 41 yX9_put ∈ xTs := xi_2 80 rfl rfl
theorem xw_885 : Cond.instanceMethod yX9_put ∈ xTs := xi_2 81 rfl rfl
theorem xw_886 : Cond.selects RX9 yX9_put yX9_put ∈ xTs := xi_2 82 rfl rfl
theorem xw_887 : Cond.code yX9_put cX9_put 6 (some .int) ∈ xTs := xi_2 83 rfl rfl
theorem xw_888 : Cond.methodLink "IceBoatsLaw" 44 yX10_put ∈ xTs := xi_5 180 rfl rfl
theorem xw_889 : Cond.instanceMethod yX10_put ∈ xTs := xi_5 181 rfl rfl
theorem xw_890 : Cond.selects RX10 yX10_put yX10_put ∈ xTs := xi_5 182 rfl rfl
theorem xw_891 : Cond.code yX10_put cX10_put 6 (some .int) ∈ xTs := xi_5 183 rfl rfl
theorem xw_892 : Cond.methodLink "IceBoatsLaw" 45 yX9_rock ∈ xTs := xi_2 84 rfl rfl
theorem xw_893 : Cond.instanceMethod yX9_rock ∈ xTs := xi_2 85 rfl rfl
theorem xw_894 : Cond.selects RX9 yX9_rock yX9_rock ∈ xTs := xi_2 86 rfl rfl
theorem xw_895 : Cond.code yX9_rock cX9_rock 4 (some .int) ∈ xTs := xi_2 87 rfl rfl
theorem xw_896 : Cond.methodLink "IceBoatsLaw" 49 yX10_rock ∈ xTs := xi_5 188 rfl rfl
theorem xw_897 : Cond.instanceMethod yX10_rock ∈ xTs := xi_5 189 rfl rfl
theorem xw_898 : Cond.selects RX10 yX10_rock yX10_rock ∈ xTs := xi_5 190 rfl rfl
theorem xw_899 : Cond.code yX10_rock cX10_rock 4 (some .int) ∈ xTs := xi_5 191 rfl rfl
theorem xw_900 : Cond.methodLink "IceBoatsLaw" 50 yX9_cell ∈ xTs := xi_2 106 rfl rfl
theorem xw_901 : Cond.instanceMethod yX9_cell ∈ xTs := xi_2 107 rfl rfl
theorem xw_902 : Cond.selects RX9 yX9_cell yX9_cell ∈ xTs := xi_2 108 rfl rfl
theorem xw_903 : Cond.code yX9_cell cX9_cell 5 (some .int) ∈ xTs := xi_2 109 rfl rfl
theorem xw_904 : Cond.methodLink "IceBoatsLaw" 54 yX10_cell ∈ xTs := xi_5 199 rfl rfl
theorem xw_905 : Cond.instanceMethod yX10_cell ∈ xTs := xi_5 200 rfl rfl
theorem xw_906 : Cond.selects RX10 yX10_cell yX10_cell ∈ xTs := xi_5 201 rfl rfl
theorem xw_907 : Cond.code yX10_cell cX10_cell 5 (some .int) ∈ xTs := xi_5 202 rfl rfl
theorem xw_908 : Cond.methodLink "IceBoatsLaw" 55 yX9_sea ∈ xTs := xi_2 120 rfl rfl
theorem xw_909 : Cond.instanceMethod yX9_sea ∈ xTs := xi_2 121 rfl rfl
theorem xw_910 : Cond.selects RX9 yX9_sea yX9_sea ∈ xTs := xi_2 122 rfl rfl
theorem xw_911 : Cond.code yX9_sea cX9_sea 3 (some .int) ∈ xTs := xi_2 123 rfl rfl
theorem xw_912 : Cond.methodLink "IceBoatsLaw" 58 yX10_sea ∈ xTs := xi_5 209 rfl rfl
theorem xw_913 : Cond.instanceMethod yX10_sea ∈ xTs := xi_5 210 rfl rfl
theorem xw_914 : Cond.selects RX10 yX10_sea yX10_sea ∈ xTs := xi_5 211 rfl rfl
theorem xw_915 : Cond.code yX10_sea cX10_sea 3 (some .int) ∈ xTs := xi_5 212 rfl rfl
theorem xw_916 : Cond.methodLink "IceBoatsLaw" 59 yX9_chart ∈ xTs := xi_2 129 rfl rfl
theorem xw_917 : Cond.instanceMethod yX9_chart ∈ xTs := xi_2 130 rfl rfl
theorem xw_918 : Cond.selects RX9 yX9_chart yX9_chart ∈ xTs := xi_2 131 rfl rfl
theorem xw_919 : Cond.code yX9_chart cX9_chart 3 (some .int) ∈ xTs := xi_2 132 rfl rfl
theorem xw_920 : Cond.methodLink "IceBoatsLaw" 62 yX10_chart ∈ xTs := xi_5 217 rfl rfl
theorem xw_921 : Cond.instanceMethod yX10_chart ∈ xTs := xi_5 218 rfl rfl
theorem xw_922 : Cond.selects RX10 yX10_chart yX10_chart ∈ xTs := xi_5 219 rfl rfl
theorem xw_923 : Cond.code yX10_chart cX10_chart 3 (some .int) ∈ xTs := xi_5 220 rfl rfl
theorem xw_924 : Cond.methodLink "IceBoatsLaw" 63 yX9_hole ∈ xTs := xi_2 133 rfl rfl
theorem xw_925 : Cond.instanceMethod yX9_hole ∈ xTs := xi_2 134 rfl rfl
theorem xw_926 : Cond.selects RX9 yX9_hole yX9_hole ∈ xTs := xi_2 135 rfl rfl
theorem xw_927 : Cond.code yX9_hole cX9_hole 3 (some .int) ∈ xTs := xi_2 136 rfl rfl
theorem xw_928 : Cond.methodLink "IceBoatsLaw" 66 yX10_hole ∈ xTs := xi_5 221 rfl rfl
theorem xw_929 : Cond.instanceMethod yX10_hole ∈ xTs := xi_5 222 rfl rfl
theorem xw_930 : Cond.selects RX10 yX10_hole yX10_hole ∈ xTs := xi_5 223 rfl rfl
theorem xw_931 : Cond.code yX10_hole cX10_hole 3 (some .int) ∈ xTs := xi_5 224 rfl rfl
theorem xw_932 : Cond.methodLink "IceBoatsLaw" 67 yX9_seed ∈ xTs := xi_2 137 rfl rfl
theorem xw_933 : Cond.instanceMethod yX9_seed ∈ xTs := xi_2 138 rfl rfl
theorem xw_934 : Cond.selects RX9 yX9_seed yX9_seed ∈ xTs := xi_2 139 rfl rfl
theorem xw_935 : Cond.code yX9_seed cX9_seed 2 (some .int) ∈ xTs := xi_2 140 rfl rfl
theorem xw_936 : Cond.methodLink "IceBoatsLaw" 70 yX10_seed ∈ xTs := xi_5 225 rfl rfl
theorem xw_937 : Cond.instanceMethod yX10_seed ∈ xTs := xi_5 226 rfl rfl
theorem xw_938 : Cond.selects RX10 yX10_seed yX10_seed ∈ xTs := xi_5 227 rfl rfl
theorem xw_939 : Cond.code yX10_seed cX10_seed 2 (some .int) ∈ xTs := xi_5 228 rfl rfl
theorem xw_940 : Cond.methodLink "IceBoatsLaw" 71 yX9_boat ∈ xTs := xi_2 141 rfl rfl
theorem xw_941 : Cond.instanceMethod yX9_boat ∈ xTs := xi_2 142 rfl rfl
theorem xw_942 : Cond.selects RX9 yX9_boat yX9_boat ∈ xTs := xi_2 143 rfl rfl
theorem xw_943 : Cond.code yX9_boat cX9_boat 6 (some .int) ∈ xTs := xi_2 144 rfl rfl
theorem xw_944 : Cond.methodLink "IceBoatsLaw" 74 yX10_boat ∈ xTs := xi_6 2 rfl rfl
theorem xw_945 : Cond.instanceMethod yX10_boat ∈ xTs := xi_6 3 rfl rfl
theorem xw_946 : Cond.selects RX10 yX10_boat yX10_boat ∈ xTs := xi_6 4 rfl rfl
theorem xw_947 : Cond.code yX10_boat cX10_boat 5 (some .int) ∈ xTs := xi_6 5 rfl rfl
theorem xw_948 : Cond.methodLink "IceBoatsLaw" 75 yX9_told ∈ xTs := xi_2 156 rfl rfl
theorem xw_949 : Cond.instanceMethod yX9_told ∈ xTs := xi_2 157 rfl rfl
theorem xw_950 : Cond.selects RX9 yX9_told yX9_told ∈ xTs := xi_2 158 rfl rfl
theorem xw_951 : Cond.code yX9_told cX9_told 4 (some .int) ∈ xTs := xi_2 159 rfl rfl
theorem xw_952 : Cond.methodLink "IceBoatsLaw" 78 yX10_told ∈ xTs := xi_6 9 rfl rfl
theorem xw_953 : Cond.instanceMethod yX10_told ∈ xTs := xi_6 10 rfl rfl
theorem xw_954 : Cond.selects RX10 yX10_told yX10_told ∈ xTs := xi_6 11 rfl rfl
theorem xw_955 : Cond.code yX10_told cX10_told 3 (some .int) ∈ xTs := xi_6 12 rfl rfl
theorem xw_956 : Cond.methodLink "IceBoatsLaw" 79 yX9_mark ∈ xTs := xi_2 175 rfl rfl
theorem xw_957 : Cond.instanceMethod yX9_mark ∈ xTs := xi_2 176 rfl rfl
theorem xw_958 : Cond.selects RX9 yX9_mark yX9_mark ∈ xTs := xi_2 177 rfl rfl
theorem xw_959 : Cond.code yX9_mark cX9_mark 4 (some .int) ∈ xTs := xi_2 178 rfl rfl
theorem xw_960 : Cond.methodLink "IceBoatsLaw" 82 yX10_mark ∈ xTs := xi_6 27 rfl rfl
theorem xw_961 : Cond.instanceMethod yX10_mark ∈ xTs := xi_6 28 rfl rfl
theorem xw_962 : Cond.selects RX10 yX10_mark yX10_mark ∈ xTs := xi_6 29 rfl rfl
theorem xw_963 : Cond.code yX10_mark cX10_mark 6 (some .int) ∈ xTs := xi_6 30 rfl rfl
theorem xw_964 : Cond.methodLink "IceBoatsLaw" 83 yX9_could ∈ xTs := xi_2 185 rfl rfl
theorem xw_965 : Cond.instanceMethod yX9_could ∈ xTs := xi_2 186 rfl rfl
theorem xw_966 : Cond.selects RX9 yX9_could yX9_could ∈ xTs := xi_2 187 rfl rfl
theorem xw_967 : Cond.code yX9_could cX9_could 3 (some .int) ∈ xTs := xi_2 188 rfl rfl
theorem xw_968 : Cond.methodLink "IceBoatsLaw" 86 yX10_could ∈ xTs := xi_6 31 rfl rfl
theorem xw_969 : Cond.instanceMethod yX10_could ∈ xTs := xi_6 32 rfl rfl
theorem xw_970 : Cond.selects RX10 yX10_could yX10_could ∈ xTs := xi_6 33 rfl rfl
theorem xw_971 : Cond.code yX10_could cX10_could 2 (some .int) ∈ xTs := xi_6 34 rfl rfl
theorem xw_972 : Cond.methodLink "IceBoatsLaw" 87 yX9_go ∈ xTs := xi_2 193 rfl rfl
theorem xw_973 : Cond.instanceMethod yX9_go ∈ xTs := xi_2 194 rfl rfl
theorem xw_974 : Cond.selects RX9 yX9_go yX9_go ∈ xTs := xi_2 195 rfl rfl
theorem xw_975 : Cond.code yX9_go cX9_go 4 (some .int) ∈ xTs := xi_2 196 rfl rfl
theorem xw_976 : Cond.methodLink "IceBoatsLaw" 90 yX10_go ∈ xTs := xi_6 35 rfl rfl
theorem xw_977 : Cond.instanceMethod yX10_go ∈ xTs := xi_6 36 rfl rfl
theorem xw_978 : Cond.selects RX10 yX10_go yX10_go ∈ xTs := xi_6 37 rfl rfl
theorem xw_979 : Cond.code yX10_go cX10_go 3 (some .int) ∈ xTs := xi_6 38 rfl rfl
theorem xw_980 : Cond.methodLink "IceBoatsLaw" 91 yX9_tick ∈ xTs := xi_2 201 rfl rfl
theorem xw_981 : Cond.instanceMethod yX9_tick ∈ xTs := xi_2 202 rfl rfl
theorem xw_982 : Cond.selects RX9 yX9_tick yX9_tick ∈ xTs := xi_2 203 rfl rfl
theorem xw_983 : Cond.code yX9_tick cX9_tick 3 (some .int) ∈ xTs := xi_2 204 rfl rfl
theorem xw_984 : Cond.methodLink "IceBoatsLaw" 95 yX10_tick ∈ xTs := xi_6 43 rfl rfl
theorem xw_985 : Cond.instanceMethod yX10_tick ∈ xTs := xi_6 44 rfl rfl
theorem xw_986 : Cond.selects RX10 yX10_tick yX10_tick ∈ xTs := xi_6 45 rfl rfl
theorem xw_987 : Cond.code yX10_tick cX10_tick 5 (some .int) ∈ xTs := xi_6 46 rfl rfl
theorem xw_988 : Cond.methodLink "IceBoatsLaw" 96 yX9_look ∈ xTs := xi_3 56 rfl rfl
theorem xw_989 : Cond.instanceMethod yX9_look ∈ xTs := xi_3 57 rfl rfl
theorem xw_990 : Cond.selects RX9 yX9_look yX9_look ∈ xTs := xi_3 58 rfl rfl
theorem xw_991 : Cond.code yX9_look cX9_look 4 (some .int) ∈ xTs := xi_3 59 rfl rfl
theorem xw_992 : Cond.methodLink "IceBoatsLaw" 99 yX10_look ∈ xTs := xi_6 78 rfl rfl
theorem xw_993 : Cond.instanceMethod yX10_look ∈ xTs := xi_6 79 rfl rfl
theorem xw_994 : Cond.selects RX10 yX10_look yX10_look ∈ xTs := xi_6 80 rfl rfl
theorem xw_995 : Cond.code yX10_look cX10_look 3 (some .int) ∈ xTs := xi_6 81 rfl rfl
theorem xw_996 : Cond.methodLink "IceBoatsLaw" 100 yX9_looked ∈ xTs := xi_3 82 rfl rfl
theorem xw_997 : Cond.instanceMethod yX9_looked ∈ xTs := xi_3 83 rfl rfl
theorem xw_998 : Cond.selects RX9 yX9_looked yX9_looked ∈ xTs := xi_3 84 rfl rfl
theorem xw_999 : Cond.code yX9_looked cX9_looked 4 (some .int) ∈ xTs := xi_3 85 rfl rfl
theorem xw_1000 : Cond.methodLink "IceBoatsLaw" 103 yX10_looked ∈ xTs := xi_6 82 rfl rfl
theorem xw_1001 : Cond.instanceMethod yX10_looked ∈ xTs := xi_6 83 rfl rfl
theorem xw_1002 : Cond.selects RX10 yX10_looked yX10_looked ∈ xTs := xi_6 84 rfl rfl
theorem xw_1003 : Cond.code yX10_looked cX10_looked 3 (some .int) ∈ xTs := xi_6 85 rfl rfl
theorem xw_1004 : Cond.methodLink "IceBoatsLaw" 104 yX9_match ∈ xTs := xi_3 90 rfl rfl
theorem xw_1005 : Cond.instanceMethod yX9_match ∈ xTs := xi_3 91 rfl rfl
theorem xw_1006 : Cond.selects RX9 yX9_match yX9_match ∈ xTs := xi_3 92 rfl rfl
theorem xw_1007 : Cond.code yX9_match cX9_match 4 (some .int) ∈ xTs := xi_3 93 rfl rfl
theorem xw_1008 : Cond.methodLink "IceBoatsLaw" 107 yX10_match ∈ xTs := xi_6 94 rfl rfl
theorem xw_1009 : Cond.instanceMethod yX10_match ∈ xTs := xi_6 95 rfl rfl
theorem xw_1010 : Cond.selects RX10 yX10_match yX10_match ∈ xTs := xi_6 96 rfl rfl
theorem xw_1011 : Cond.code yX10_match cX10_match 7 (some .int) ∈ xTs := xi_6 97 rfl rfl
theorem xw_1012 : Cond.methodLink "IceBoatsLaw" 108 yX9_home ∈ xTs := xi_3 98 rfl rfl
theorem xw_1013 : Cond.instanceMethod yX9_home ∈ xTs := xi_3 99 rfl rfl
theorem xw_1014 : Cond.selects RX9 yX9_home yX9_home ∈ xTs := xi_3 100 rfl rfl
theorem xw_1015 : Cond.code yX9_home cX9_home 3 (some .int) ∈ xTs := xi_3 101 rfl rfl
theorem xw_1016 : Cond.methodLink "IceBoatsLaw" 111 yX10_home ∈ xTs := xi_6 98 rfl rfl
theorem xw_1017 : Cond.instanceMethod yX10_home ∈ xTs := xi_6 99 rfl rfl
theorem xw_1018 : Cond.selects RX10 yX10_home yX10_home ∈ xTs := xi_6 100 rfl rfl
theorem xw_1019 : Cond.code yX10_home cX10_home 2 (some .int) ∈ xTs := xi_6 101 rfl rfl
theorem xw_1020 : Cond.methodLink "IceBoatsLaw" 112 yX9_time ∈ xTs := xi_3 102 rfl rfl
theorem xw_1021 : Cond.instanceMethod yX9_time ∈ xTs := xi_3 103 rfl rfl
theorem xw_1022 : Cond.selects RX9 yX9_time yX9_time ∈ xTs := xi_3 104 rfl rfl
theorem xw_1023 : Cond.code yX9_time cX9_time 4 (some .int) ∈ xTs := xi_3 105 rfl rfl
theorem xw_1024 : Cond.methodLink "IceBoatsLaw" 115 yX10_time ∈ xTs := xi_5 229 rfl rfl
theorem xw_1025 : Cond.instanceMethod yX10_time ∈ xTs := xi_5 230 rfl rfl
theorem xw_1026 : Cond.selects RX10 yX10_time yX10_time ∈ xTs := xi_5 231 rfl rfl
theorem xw_1027 : Cond.code yX10_time cX10_time 3 (some .int) ∈ xTs := xi_5 232 rfl rfl
theorem xw_1028 : Cond.methodLink "IceBoatsLaw" 116 yX9_say ∈ xTs := xi_3 114 rfl rfl
theorem xw_1029 : Cond.instanceMethod yX9_say ∈ xTs := xi_3 115 rfl rfl
theorem xw_1030 : Cond.selects RX9 yX9_say yX9_say ∈ xTs := xi_3 116 rfl rfl
theorem xw_1031 : Cond.code yX9_say cX9_say 7 (some .int) ∈ xTs := xi_3 117 rfl rfl
theorem xw_1032 : Cond.methodLink "IceBoatsLaw" 119 yX10_say ∈ xTs := xi_6 102 rfl rfl
theorem xw_1033 : Cond.instanceMethod yX10_say ∈ xTs := xi_6 103 rfl rfl
theorem xw_1034 : Cond.selects RX10 yX10_say yX10_say ∈ xTs := xi_6 104 rfl rfl
theorem xw_1035 : Cond.code yX10_say cX10_say 7 (some .int) ∈ xTs := xi_6 105 rfl rfl
theorem xw_1036 : Cond.methodLink "IceBoatsLaw" 120 yX9_word ∈ xTs := xi_3 167 rfl rfl
theorem xw_1037 : Cond.instanceMethod yX9_word ∈ xTs := xi_3 168 rfl rfl
theorem xw_1038 : Cond.selects RX9 yX9_word yX9_word ∈ xTs := xi_3 169 rfl rfl
theorem xw_1039 : Cond.code yX9_word cX9_word 4 (some .int) ∈ xTs := xi_3 170 rfl rfl
theorem xw_1040 : Cond.methodLink "IceBoatsLaw" 123 yX10_word ∈ xTs := xi_6 110 rfl rfl
theorem xw_1041 : Cond.instanceMethod yX10_word ∈ xTs := xi_6 111 rfl rfl
theorem xw_1042 : Cond.selects RX10 yX10_word yX10_word ∈ xTs := xi_6 112 rfl rfl
theorem xw_1043 : Cond.code yX10_word cX10_word 3 (some .int) ∈ xTs := xi_6 113 rfl rfl
theorem xw_1044 : Cond.methodLink "IceBoatsLaw" 124 yX9_tells ∈ xTs := xi_3 179 rfl rfl
theorem xw_1045 : Cond.instanceMethod yX9_tells ∈ xTs := xi_3 180 rfl rfl
theorem xw_1046 : Cond.selects RX9 yX9_tells yX9_tells ∈ xTs := xi_3 181 rfl rfl
theorem xw_1047 : Cond.code yX9_tells cX9_tells 4 (some .int) ∈ xTs := xi_3 182 rfl rfl
theorem xw_1048 : Cond.methodLink "IceBoatsLaw" 127 yX10_tells ∈ xTs := xi_6 122 rfl rfl
theorem xw_1049 : Cond.instanceMethod yX10_tells ∈ xTs := xi_6 123 rfl rfl
theorem xw_1050 : Cond.selects RX10 yX10_tells yX10_tells ∈ xTs := xi_6 124 rfl rfl
theorem xw_1051 : Cond.code yX10_tells cX10_tells 5 (some .int) ∈ xTs := xi_6 125 rfl rfl
theorem xw_1052 : Cond.methodLink "IceBoatsLaw" 128 yX9_heard ∈ xTs := xi_3 194 rfl rfl
theorem xw_1053 : Cond.instanceMethod yX9_heard ∈ xTs := xi_3 195 rfl rfl
theorem xw_1054 : Cond.selects RX9 yX9_heard yX9_heard ∈ xTs := xi_3 196 rfl rfl
theorem xw_1055 : Cond.code yX9_heard cX9_heard 4 (some .int) ∈ xTs := xi_3 197 rfl rfl
theorem xw_1056 : Cond.methodLink "IceBoatsLaw" 131 yX10_heard ∈ xTs := xi_6 126 rfl rfl
theorem xw_1057 : Cond.instanceMethod yX10_heard ∈ xTs := xi_6 127 rfl rfl
theorem xw_1058 : Cond.selects RX10 yX10_heard yX10_heard ∈ xTs := xi_6 128 rfl rfl
theorem xw_1059 : Cond.code yX10_heard cX10_heard 3 (some .int) ∈ xTs := xi_6 129 rfl rfl
theorem xw_1060 : Cond.methodLink "IceBoatsLaw" 132 yX9_knows ∈ xTs := xi_3 198 rfl rfl
theorem xw_1061 : Cond.instanceMethod yX9_knows ∈ xTs := xi_3 199 rfl rfl
theorem xw_1062 : Cond.selects RX9 yX9_knows yX9_knows ∈ xTs := xi_3 200 rfl rfl
theorem xw_1063 : Cond.code yX9_knows cX9_knows 6 (some .int) ∈ xTs := xi_3 201 rfl rfl
theorem xw_1064 : Cond.methodLink "IceBoatsLaw" 135 yX10_knows ∈ xTs := xi_6 130 rfl rfl
theorem xw_1065 : Cond.instanceMethod yX10_knows ∈ xTs := xi_6 131 rfl rfl
theorem xw_1066 : Cond.selects RX10 yX10_knows yX10_knows ∈ xTs := xi_6 132 rfl rfl
theorem xw_1067 : Cond.code yX10_knows cX10_knows 5 (some .int) ∈ xTs := xi_6 133 rfl rfl
theorem xw_1068 : Cond.methodLink "IceBoatsLaw" 136 yX9_allKnow ∈ xTs := xi_3 221 rfl rfl
theorem xw_1069 : Cond.instanceMethod yX9_allKnow ∈ xTs := xi_3 222 rfl rfl
theorem xw_1070 : Cond.selects RX9 yX9_allKnow yX9_allKnow ∈ xTs := xi_3 223 rfl rfl
theorem xw_1071 : Cond.code yX9_allKnow cX9_allKnow 8 (some .int) ∈ xTs := xi_3 224 rfl rfl
theorem xw_1072 : Cond.methodLink "IceBoatsLaw" 139 yX10_allKnow ∈ xTs := xi_6 146 rfl rfl
theorem xw_1073 : Cond.instanceMethod yX10_allKnow ∈ xTs := xi_6 147 rfl rfl
theorem xw_1074 : Cond.selects RX10 yX10_allKnow yX10_allKnow ∈ xTs := xi_6 148 rfl rfl
theorem xw_1075 : Cond.code yX10_allKnow cX10_allKnow 12 (some .int) ∈ xTs := xi_6 149 rfl rfl
theorem xw_1076 : Cond.methodLink "IceBoatsLaw" 140 yX9_fault ∈ xTs := xi_3 232 rfl rfl
theorem xw_1077 : Cond.instanceMethod yX9_fault ∈ xTs := xi_3 233 rfl rfl
theorem xw_1078 : Cond.selects RX9 yX9_fault yX9_fault ∈ xTs := xi_3 234 rfl rfl
theorem xw_1079 : Cond.code yX9_fault cX9_fault 3 (some .int) ∈ xTs := xi_3 235 rfl rfl
theorem xw_1080 : Cond.methodLink "IceBoatsLaw" 143 yX10_fault ∈ xTs := xi_6 150 rfl rfl
theorem xw_1081 : Cond.instanceMethod yX10_fault ∈ xTs := xi_6 151 rfl rfl
theorem xw_1082 : Cond.selects RX10 yX10_fault yX10_fault ∈ xTs := xi_6 152 rfl rfl
theorem xw_1083 : Cond.code yX10_fault cX10_fault 3 (some .int) ∈ xTs := xi_6 153 rfl rfl
theorem xw_1084 : Cond.methodLink "IceBoatsLaw" 144 yX9_rules ∈ xTs := xi_4 11 rfl rfl
theorem xw_1085 : Cond.instanceMethod yX9_rules ∈ xTs := xi_4 12 rfl rfl
theorem xw_1086 : Cond.selects RX9 yX9_rules yX9_rules ∈ xTs := xi_4 13 rfl rfl
theorem xw_1087 : Cond.code yX9_rules cX9_rules 7 (some .int) ∈ xTs := xi_4 14 rfl rfl
theorem xw_1088 : Cond.methodLink "IceBoatsLaw" 147 yX10_rules ∈ xTs := xi_6 161 rfl rfl
theorem xw_1089 : Cond.instanceMethod yX10_rules ∈ xTs := xi_6 162 rfl rfl
theorem xw_1090 : Cond.selects RX10 yX10_rules yX10_rules ∈ xTs := xi_6 163 rfl rfl
theorem xw_1091 : Cond.code yX10_rules cX10_rules 5 (some .int) ∈ xTs := xi_6 164 rfl rfl
theorem xw_1092 : Cond.methodLink "IceBoatsLaw" 148 yX9_rule ∈ xTs := xi_4 15 rfl rfl
theorem xw_1093 : Cond.instanceMethod yX9_rule ∈ xTs := xi_4 16 rfl rfl
theorem xw_1094 : Cond.selects RX9 yX9_rule yX9_rule ∈ xTs := xi_4 17 rfl rfl
theorem xw_1095 : Cond.code yX9_rule cX9_rule 4 (some .int) ∈ xTs := xi_4 18 rfl rfl
theorem xw_1096 : Cond.methodLink "IceBoatsLaw" 151 yX10_rule ∈ xTs := xi_6 165 rfl rfl
theorem xw_1097 : Cond.instanceMethod yX10_rule ∈ xTs := xi_6 166 rfl rfl
theorem xw_1098 : Cond.selects RX10 yX10_rule yX10_rule ∈ xTs := xi_6 167 rfl rfl
theorem xw_1099 : Cond.code yX10_rule cX10_rule 3 (some .int) ∈ xTs := xi_6 168 rfl rfl
theorem xw_1100 : Cond.methodLink "IceBoatsLaw" 152 yX9_asks ∈ xTs := xi_4 19 rfl rfl
theorem xw_1101 : Cond.instanceMethod yX9_asks ∈ xTs := xi_4 20 rfl rfl
theorem xw_1102 : Cond.selects RX9 yX9_asks yX9_asks ∈ xTs := xi_4 21 rfl rfl
theorem xw_1103 : Cond.code yX9_asks cX9_asks 5 (some .int) ∈ xTs := xi_4 22 rfl rfl
theorem xw_1104 : Cond.methodLink "IceBoatsLaw" 155 yX10_asks ∈ xTs := xi_6 169 rfl rfl
theorem xw_1105 : Cond.instanceMethod yX10_asks ∈ xTs := xi_6 170 rfl rfl
theorem xw_1106 : Cond.selects RX10 yX10_asks yX10_asks ∈ xTs := xi_6 171 rfl rfl
theorem xw_1107 : Cond.code yX10_asks cX10_asks 5 (some .int) ∈ xTs := xi_6 172 rfl rfl
theorem xw_1108 : Cond.methodLink "IceBoatsLaw" 156 yX9_shifts ∈ xTs := xi_4 27 rfl rfl
theorem xw_1109 : Cond.instanceMethod yX9_shifts ∈ xTs := xi_4 28 rfl rfl
theorem xw_1110 : Cond.selects RX9 yX9_shifts yX9_shifts ∈ xTs := xi_4 29 rfl rfl
theorem xw_1111 : Cond.code yX9_shifts cX9_shifts 10 (some .int) ∈ xTs := xi_4 30 rfl rfl
theorem xw_1112 : Cond.methodLink "IceBoatsLaw" 159 yX10_shifts ∈ xTs := xi_6 173 rfl rfl
theorem xw_1113 : Cond.instanceMethod yX10_shifts ∈ xTs := xi_6 174 rfl rfl
theorem xw_1114 : Cond.selects RX10 yX10_shifts yX10_shifts ∈ xTs := xi_6 175 rfl rfl
theorem xw_1115 : Cond.code yX10_shifts cX10_shifts 9 (some .int) ∈ xTs := xi_6 176 rfl rfl
theorem xw_1116 : Cond.methodLink "IceBoatsLaw" 160 yX9_mapped ∈ xTs := xi_4 37 rfl rfl
theorem xw_1117 : Cond.instanceMethod yX9_mapped ∈ xTs := xi_4 38 rfl rfl
theorem xw_1118 : Cond.selects RX9 yX9_mapped yX9_mapped ∈ xTs := xi_4 39 rfl rfl
theorem xw_1119 : Cond.code yX9_mapped cX9_mapped 5 (some .int) ∈ xTs := xi_4 40 rfl rfl
theorem xw_1120 : Cond.methodLink "IceBoatsLaw" 163 yX10_mapped ∈ xTs := xi_6 185 rfl rfl
theorem xw_1121 : Cond.instanceMethod yX10_mapped ∈ xTs := xi_6 186 rfl rfl
theorem xw_1122 : Cond.selects RX10 yX10_mapped yX10_mapped ∈ xTs := xi_6 187 rfl rfl
theorem xw_1123 : Cond.code yX10_mapped cX10_mapped 3 (some .int) ∈ xTs := xi_6 188 rfl rfl
theorem xw_1124 : Cond.methodLink "IceBoatsLaw" 164 yX9_plan ∈ xTs := xi_4 41 rfl rfl
theorem xw_1125 : Cond.instanceMethod yX9_plan ∈ xTs := xi_4 42 rfl rfl
theorem xw_1126 : Cond.selects RX9 yX9_plan yX9_plan ∈ xTs := xi_4 43 rfl rfl
theorem xw_1127 : Cond.code yX9_plan cX9_plan 6 (some .int) ∈ xTs := xi_4 44 rfl rfl
theorem xw_1128 : Cond.methodLink "IceBoatsLaw" 167 yX10_plan ∈ xTs := xi_6 189 rfl rfl
theorem xw_1129 : Cond.instanceMethod yX10_plan ∈ xTs := xi_6 190 rfl rfl
theorem xw_1130 : Cond.selects RX10 yX10_plan yX10_plan ∈ xTs := xi_6 191 rfl rfl
theorem xw_1131 : Cond.code yX10_plan cX10_plan 12 (some .int) ∈ xTs := xi_6 192 rfl rfl
theorem xw_1132 : Cond.methodLink "IceBoatsLaw" 168 yX9_odds ∈ xTs := xi_4 89 rfl rfl
theorem xw_1133 : Cond.instanceMethod yX9_odds ∈ xTs := xi_4 90 rfl rfl
theorem xw_1134 : Cond.selects RX9 yX9_odds yX9_odds ∈ xTs := xi_4 91 rfl rfl
theorem xw_1135 : Cond.code yX9_odds cX9_odds 8 (some .int) ∈ xTs := xi_4 92 rfl rfl
theorem xw_1136 : Cond.methodLink "IceBoatsLaw" 171 yX10_odds ∈ xTs := xi_6 201 rfl rfl
theorem xw_1137 : Cond.instanceMethod yX10_odds ∈ xTs := xi_6 202 rfl rfl
theorem xw_1138 : Cond.selects RX10 yX10_odds yX10_odds ∈ xTs := xi_6 203 rfl rfl
theorem xw_1139 : Cond.code yX10_odds cX10_odds 9 (some .int) ∈ xTs := xi_6 204 rfl rfl
theorem xw_1140 : Cond.methodLink "IceBoatsLaw" 172 yX9_courses ∈ xTs := xi_4 124 rfl rfl
theorem xw_1141 : Cond.instanceMethod yX9_courses ∈ xTs := xi_4 125 rfl rfl
theorem xw_1142 : Cond.selects RX9 yX9_courses yX9_courses ∈ xTs := xi_4 126 rfl rfl
theorem xw_1143 : Cond.code yX9_courses cX9_courses 8 (some .int) ∈ xTs := xi_4 127 rfl rfl
theorem xw_1144 : Cond.methodLink "IceBoatsLaw" 175 yX10_courses ∈ xTs := xi_6 215 rfl rfl
theorem xw_1145 : Cond.instanceMethod yX10_courses ∈ xTs := xi_6 216 rfl rfl
theorem xw_1146 : Cond.selects RX10 yX10_courses yX10_courses ∈ xTs := xi_6 217 rfl rfl
theorem xw_1147 : Cond.code yX10_courses cX10_courses 9 (some .int) ∈ xTs := xi_6 218 rfl rfl
theorem xw_1148 : Cond.methodLink "IceBoatsLaw" 176 yX9_asked ∈ xTs := xi_4 150 rfl rfl
theorem xw_1149 : Cond.instanceMethod yX9_asked ∈ xTs := xi_4 151 rfl rfl
theorem xw_1150 : Cond.selects RX9 yX9_asked yX9_asked ∈ xTs := xi_4 152 rfl rfl
theorem xw_1151 : Cond.code yX9_asked cX9_asked 1 (some .int) ∈ xTs := xi_4 153 rfl rfl
theorem xw_1152 : Cond.methodLink "IceBoatsLaw" 179 yX10_asked ∈ xTs := xi_6 223 rfl rfl
theorem xw_1153 : Cond.instanceMethod yX10_asked ∈ xTs := xi_6 224 rfl rfl
theorem xw_1154 : Cond.selects RX10 yX10_asked yX10_asked ∈ xTs := xi_6 225 rfl rfl
theorem xw_1155 : Cond.code yX10_asked cX10_asked 1 (some .int) ∈ xTs := xi_6 226 rfl rfl
theorem xw_1156 : Cond.methodLink "IceBoatsLaw" 180 yX9_set ∈ xTs := xi_4 154 rfl rfl
theorem xw_1157 : Cond.instanceMethod yX9_set ∈ xTs := xi_4 155 rfl rfl
theorem xw_1158 : Cond.selects RX9 yX9_set yX9_set ∈ xTs := xi_4 156 rfl rfl
theorem xw_1159 : Cond.code yX9_set cX9_set 1 (some .long) ∈ xTs := xi_4 157 rfl rfl
theorem xw_1160 : Cond.methodLink "IceBoatsLaw" 184 yX10_set ∈ xTs := xi_6 227 rfl rfl
theorem xw_1161 : Cond.instanceMethod yX10_set ∈ xTs := xi_6 228 rfl rfl
theorem xw_1162 : Cond.selects RX10 yX10_set yX10_set ∈ xTs := xi_6 229 rfl rfl
theorem xw_1163 : Cond.code yX10_set cX10_set 1 (some .long) ∈ xTs := xi_6 230 rfl rfl
theorem xw_1164 : Cond.methodLink "IceBoatsLaw" 185 yX9_upper ∈ xTs := xi_4 158 rfl rfl
theorem xw_1165 : Cond.instanceMethod yX9_upper ∈ xTs := xi_4 159 rfl rfl
theorem xw_1166 : Cond.selects RX9 yX9_upper yX9_upper ∈ xTs := xi_4 160 rfl rfl
theorem xw_1167 : Cond.code yX9_upper cX9_upper 1 (some .long) ∈ xTs := xi_4 161 rfl rfl
theorem xw_1168 : Cond.methodLink "IceBoatsLaw" 188 yX10_upper ∈ xTs := xi_6 231 rfl rfl
theorem xw_1169 : Cond.instanceMethod yX10_upper ∈ xTs := xi_6 232 rfl rfl
theorem xw_1170 : Cond.selects RX10 yX10_upper yX10_upper ∈ xTs := xi_6 233 rfl rfl
theorem xw_1171 : Cond.code yX10_upper cX10_upper 1 (some .long) ∈ xTs := xi_6 234 rfl rfl
theorem xw_1172 : Cond.methodLink "IceBoatsLaw" 189 yX9_lower ∈ xTs := xi_4 162 rfl rfl
theorem xw_1173 : Cond.instanceMethod yX9_lower ∈ xTs := xi_4 163 rfl rfl
theorem xw_1174 : Cond.selects RX9 yX9_lower yX9_lower ∈ xTs := xi_4 164 rfl rfl
theorem xw_1175 : Cond.code yX9_lower cX9_lower 1 (some .long) ∈ xTs := xi_4 165 rfl rfl
theorem xw_1176 : Cond.methodLink "IceBoatsLaw" 192 yX10_lower ∈ xTs := xi_6 235 rfl rfl
theorem xw_1177 : Cond.instanceMethod yX10_lower ∈ xTs := xi_6 236 rfl rfl
theorem xw_1178 : Cond.selects RX10 yX10_lower yX10_lower ∈ xTs := xi_6 237 rfl rfl
theorem xw_1179 : Cond.code yX10_lower cX10_lower 1 (some .long) ∈ xTs := xi_6 238 rfl rfl
theorem xw_1180 : Cond.methodLink "IceBoatsLaw" 193 yX9_count ∈ xTs := xi_4 166 rfl rfl
theorem xw_1181 : Cond.methodLink "IceBoatsLaw" 196 yX10_count ∈ xTs := xi_6 239 rfl rfl
theorem xw_1182 : Cond.instanceMethod yX10_count ∈ xTs := xi_7 0 rfl rfl
theorem xw_1183 : Cond.selects RX10 yX10_count yX10_count ∈ xTs := xi_7 1 rfl rfl
theorem xw_1184 : Cond.code yX10_count cX10_count 2 (some .int) ∈ xTs := xi_7 2 rfl rfl
theorem xw_1185 : Cond.methodLink "IceBoatsLaw" 197 yX9_finding ∈ xTs := xi_4 181 rfl rfl
theorem xw_1186 : Cond.instanceMethod yX9_finding ∈ xTs := xi_4 182 rfl rfl
theorem xw_1187 : Cond.selects RX9 yX9_finding yX9_finding ∈ xTs := xi_4 183 rfl rfl
theorem xw_1188 : Cond.code yX9_finding cX9_finding 1 (some .int) ∈ xTs := xi_4 184 rfl rfl
theorem xw_1189 : Cond.methodLink "IceBoatsLaw" 200 yX10_finding ∈ xTs := xi_7 7 rfl rfl
theorem xw_1190 : Cond.instanceMethod yX10_finding ∈ xTs := xi_7 8 rfl rfl
theorem xw_1191 : Cond.selects RX10 yX10_finding yX10_finding ∈ xTs := xi_7 9 rfl rfl
theorem xw_1192 : Cond.code yX10_finding cX10_finding 1 (some .int) ∈ xTs := xi_7 10 rfl rfl
theorem xw_1193 : Cond.methodLink "IceBoatsLaw" 201 yX9_findings ∈ xTs := xi_4 185 rfl rfl
theorem xw_1194 : Cond.instanceMethod yX9_findings ∈ xTs := xi_4 186 rfl rfl
theorem xw_1195 : Cond.selects RX9 yX9_findings yX9_findings ∈ xTs := xi_4 187 rfl rfl
theorem xw_1196 : Cond.code yX9_findings cX9_findings 2 (some .int) ∈ xTs := xi_4 188 rfl rfl
theorem xw_1197 : Cond.methodLink "IceBoatsLaw" 204 yX10_findings ∈ xTs := xi_7 11 rfl rfl
theorem xw_1198 : Cond.instanceMethod yX10_findings ∈ xTs := xi_7 12 rfl rfl
theorem xw_1199 : Cond.selects RX10 yX10_findings yX10_findings ∈ xTs := xi_7 13 rfl rfl
theorem xw_1200 : Cond.code yX10_findings cX10_findings 2 (some .int) ∈ xTs := xi_7 14 rfl rfl
theorem xw_1201 : Cond.methodLink "IceBoatsLaw" 205 yX9_digest ∈ xTs := xi_4 189 rfl rfl
theorem xw_1202 : Cond.instanceMethod yX9_digest ∈ xTs := xi_4 190 rfl rfl
theorem xw_1203 : Cond.selects RX9 yX9_digest yX9_digest ∈ xTs := xi_4 191 rfl rfl
theorem xw_1204 : Cond.code yX9_digest cX9_digest 5 (some .long) ∈ xTs := xi_4 192 rfl rfl
theorem xw_1205 : Cond.methodLink "IceBoatsLaw" 208 yX10_digest ∈ xTs := xi_7 15 rfl rfl
theorem xw_1206 : Cond.instanceMethod yX10_digest ∈ xTs := xi_7 16 rfl rfl
theorem xw_1207 : Cond.selects RX10 yX10_digest yX10_digest ∈ xTs := xi_7 17 rfl rfl
theorem xw_1208 : Cond.code yX10_digest cX10_digest 3 (some .long) ∈ xTs := xi_7 18 rfl rfl
theorem xw_1209 : Cond.arrayClass .int ∈ xTs := xi_1 46 rfl rfl
theorem xw_1210 : Cond.arrayClass .long ∈ xTs := xi_1 47 rfl rfl
theorem xw_1211 : Cond.arrayClass .boolean ∈ xTs := xi_1 117 rfl rfl
theorem xw_1212 : Cond.instanceMethod Lib.objectInit ∈ xTs := xi_1 22 rfl rfl
theorem xw_1213 : Cond.code Lib.objectInit ⟨#[0xb1]⟩ 1 none ∈ xTs := xi_1 23 rfl rfl
theorem x_all {ws : List Cond} (h : ws.all (fun w => decide (w ∈ lw_tbl) && goodWord w) = true) : ∀ w ∈ ws, w ∈ xTs := fun w hw => by
  have h1 := List.all_eq_true.mp h w hw
  rw [Bool.and_eq_true] at h1
  exact List.mem_filter.mpr ⟨of_decide_eq_true h1.1, h1.2⟩
theorem xu_0 : ∀ w ∈ u_ws RX0 TX0 12, w ∈ xTs := fun w hw => by
  obtain ⟨j, hj, rfl⟩ := List.mem_map.mp hw
  have hj := List.mem_range.mp hj
  match j, hj with
  | 0, _ => exact xi_1 182 rfl rfl
  | 1, _ => exact xi_1 184 rfl rfl
  | 2, _ => exact xi_1 186 rfl rfl
  | 3, _ => exact xi_1 188 rfl rfl
  | 4, _ => exact xi_1 190 rfl rfl
  | 5, _ => exact xi_1 192 rfl rfl
  | 6, _ => exact xi_1 194 rfl rfl
  | 7, _ => exact xi_1 196 rfl rfl
  | 8, _ => exact xi_1 198 rfl rfl
  | 9, _ => exact xi_1 200 rfl rfl
  | 10, _ => exact xi_1 202 rfl rfl
  | 11, _ => exact xi_1 204 rfl rfl
  | j + 12, hj => exact absurd hj (by omega)
theorem xclo_0 : xclo vwCl xTs 0 RX0 TX0 12 tyX0 := ⟨rfl, xu_0, tyX0_ok, nmX0⟩
theorem xu_1 : ∀ w ∈ u_ws RX1 TX1 4, w ∈ xTs := fun w hw => by
  obtain ⟨j, hj, rfl⟩ := List.mem_map.mp hw
  have hj := List.mem_range.mp hj
  match j, hj with
  | 0, _ => exact xi_1 129 rfl rfl
  | 1, _ => exact xi_1 131 rfl rfl
  | 2, _ => exact xi_1 133 rfl rfl
  | 3, _ => exact xi_1 135 rfl rfl
  | j + 4, hj => exact absurd hj (by omega)
theorem xclo_1 : xclo vwCl xTs 1 RX1 TX1 4 tyX1 := ⟨rfl, xu_1, tyX1_ok, nmX1⟩
theorem xu_2 : ∀ w ∈ u_ws RX2 TX2 4, w ∈ xTs := fun w hw => by
  obtain ⟨j, hj, rfl⟩ := List.mem_map.mp hw
  have hj := List.mem_range.mp hj
  match j, hj with
  | 0, _ => exact xi_3 73 rfl rfl
  | 1, _ => exact xi_3 75 rfl rfl
  | 2, _ => exact xi_3 77 rfl rfl
  | 3, _ => exact xi_3 79 rfl rfl
  | j + 4, hj => exact absurd hj (by omega)
theorem xclo_2 : xclo vwCl xTs 2 RX2 TX2 4 tyX2 := ⟨rfl, xu_2, tyX2_ok, nmX2⟩
theorem xu_3 : ∀ w ∈ u_ws RX3 TX3 4, w ∈ xTs := fun w hw => by
  obtain ⟨j, hj, rfl⟩ := List.mem_map.mp hw
  have hj := List.mem_range.mp hj
  match j, hj with
  | 0, _ => exact xi_1 108 rfl rfl
  | 1, _ => exact xi_1 110 rfl rfl
  | 2, _ => exact xi_1 112 rfl rfl
  | 3, _ => exact xi_1 114 rfl rfl
  | j + 4, hj => exact absurd hj (by omega)
theorem xclo_3 : xclo vwCl xTs 3 RX3 TX3 4 tyX3 := ⟨rfl, xu_3, tyX3_ok, nmX3⟩
theorem xu_4 : ∀ w ∈ u_ws RX4 TX4 2, w ∈ xTs := fun w hw => by
  obtain ⟨j, hj, rfl⟩ := List.mem_map.mp hw
  have hj := List.mem_range.mp hj
  match j, hj with
  | 0, _ => exact xi_1 151 rfl rfl
  | 1, _ => exact xi_1 153 rfl rfl
  | j + 2, hj => exact absurd hj (by omega)
theorem xclo_4 : xclo vwCl xTs 4 RX4 TX4 2 tyX4 := ⟨rfl, xu_4, tyX4_ok, nmX4⟩
theorem xu_5 : ∀ w ∈ u_ws RX5 TX5 1, w ∈ xTs := fun w hw => by
  obtain ⟨j, hj, rfl⟩ := List.mem_map.mp hw
  have hj := List.mem_range.mp hj
  match j, hj with
  | 0, _ => exact xi_1 93 rfl rfl
  | j + 1, hj => exact absurd hj (by omega)
theorem xclo_5 : xclo vwCl xTs 5 RX5 TX5 1 tyX5 := ⟨rfl, xu_5, tyX5_ok, nmX5⟩
theorem xu_6 : ∀ w ∈ u_ws RX6 TX6 8, w ∈ xTs := fun w hw => by
  obtain ⟨j, hj, rfl⟩ := List.mem_map.mp hw
  have hj := List.mem_range.mp hj
  match j, hj with
  | 0, _ => exact xi_1 62 rfl rfl
  | 1, _ => exact xi_1 64 rfl rfl
  | 2, _ => exact xi_1 66 rfl rfl
  | 3, _ => exact xi_1 68 rfl rfl
  | 4, _ => exact xi_1 70 rfl rfl
  | 5, _ => exact xi_1 72 rfl rfl
  | 6, _ => exact xi_1 74 rfl rfl
  | 7, _ => exact xi_1 76 rfl rfl
  | j + 8, hj => exact absurd hj (by omega)
theorem xclo_6 : xclo vwCl xTs 6 RX6 TX6 8 tyX6 := ⟨rfl, xu_6, tyX6_ok, nmX6⟩
theorem xu_7 : ∀ w ∈ u_ws RX7 TX7 2, w ∈ xTs := fun w hw => by
  obtain ⟨j, hj, rfl⟩ := List.mem_map.mp hw
  have hj := List.mem_range.mp hj
  match j, hj with
  | 0, _ => exact xi_1 41 rfl rfl
  | 1, _ => exact xi_1 43 rfl rfl
  | j + 2, hj => exact absurd hj (by omega)
theorem xclo_7 : xclo vwCl xTs 7 RX7 TX7 2 tyX7 := ⟨rfl, xu_7, tyX7_ok, nmX7⟩
theorem xu_8 : ∀ w ∈ u_ws RX8 TX8 7, w ∈ xTs := fun w hw => by
  obtain ⟨j, hj, rfl⟩ := List.mem_map.mp hw
  have hj := List.mem_range.mp hj
  match j, hj with
  | 0, _ => exact xi_3 145 rfl rfl
  | 1, _ => exact xi_3 147 rfl rfl
  | 2, _ => exact xi_3 149 rfl rfl
  | 3, _ => exact xi_3 151 rfl rfl
  | 4, _ => exact xi_3 153 rfl rfl
  | 5, _ => exact xi_3 155 rfl rfl
  | 6, _ => exact xi_3 157 rfl rfl
  | j + 7, hj => exact absurd hj (by omega)
theorem xclo_8 : xclo vwCl xTs 8 RX8 TX8 7 tyX8 := ⟨rfl, xu_8, tyX8_ok, nmX8⟩
theorem xu_9 : ∀ w ∈ u_ws RX9 TX9 19, w ∈ xTs := fun w hw => by
  obtain ⟨j, hj, rfl⟩ := List.mem_map.mp hw
  have hj := List.mem_range.mp hj
  match j, hj with
  | 0, _ => exact xi_1 226 rfl rfl
  | 1, _ => exact xi_1 228 rfl rfl
  | 2, _ => exact xi_1 230 rfl rfl
  | 3, _ => exact xi_1 232 rfl rfl
  | 4, _ => exact xi_1 234 rfl rfl
  | 5, _ => exact xi_1 236 rfl rfl
  | 6, _ => exact xi_1 238 rfl rfl
  | 7, _ => exact xi_2 0 rfl rfl
  | 8, _ => exact xi_2 2 rfl rfl
  | 9, _ => exact xi_2 4 rfl rfl
  | 10, _ => exact xi_2 6 rfl rfl
  | 11, _ => exact xi_2 8 rfl rfl
  | 12, _ => exact xi_2 10 rfl rfl
  | 13, _ => exact xi_2 12 rfl rfl
  | 14, _ => exact xi_2 14 rfl rfl
  | 15, _ => exact xi_2 16 rfl rfl
  | 16, _ => exact xi_2 18 rfl rfl
  | 17, _ => exact xi_2 20 rfl rfl
  | 18, _ => exact xi_2 22 rfl rfl
  | j + 19, hj => exact absurd hj (by omega)
theorem xclo_9 : xclo vwCl xTs 9 RX9 TX9 19 tyX9 := ⟨rfl, xu_9, tyX9_ok, nmX9⟩
theorem xu_10 : ∀ w ∈ u_ws RX10 TX10 51, w ∈ xTs := fun w hw => by
  obtain ⟨j, hj, rfl⟩ := List.mem_map.mp hw
  have hj := List.mem_range.mp hj
  match j, hj with
  | 0, _ => exact xi_5 28 rfl rfl
  | 1, _ => exact xi_5 30 rfl rfl
  | 2, _ => exact xi_5 32 rfl rfl
  | 3, _ => exact xi_5 34 rfl rfl
  | 4, _ => exact xi_5 36 rfl rfl
  | 5, _ => exact xi_5 38 rfl rfl
  | 6, _ => exact xi_5 40 rfl rfl
  | 7, _ => exact xi_5 42 rfl rfl
  | 8, _ => exact xi_5 44 rfl rfl
  | 9, _ => exact xi_5 46 rfl rfl
  | 10, _ => exact xi_5 48 rfl rfl
  | 11, _ => exact xi_5 50 rfl rfl
  | 12, _ => exact xi_5 52 rfl rfl
  | 13, _ => exact xi_5 54 rfl rfl
  | 14, _ => exact xi_5 56 rfl rfl
  | 15, _ => exact xi_5 58 rfl rfl
  | 16, _ => exact xi_5 60 rfl rfl
  | 17, _ => exact xi_5 62 rfl rfl
  | 18, _ => exact xi_5 64 rfl rfl
  | 19, _ => exact xi_5 66 rfl rfl
  | 20, _ => exact xi_5 68 rfl rfl
  | 21, _ => exact xi_5 70 rfl rfl
  | 22, _ => exact xi_5 72 rfl rfl
  | 23, _ => exact xi_5 74 rfl rfl
  | 24, _ => exact xi_5 76 rfl rfl
  | 25, _ => exact xi_5 78 rfl rfl
  | 26, _ => exact xi_5 80 rfl rfl
  | 27, _ => exact xi_5 82 rfl rfl
  | 28, _ => exact xi_5 84 rfl rfl
  | 29, _ => exact xi_5 86 rfl rfl
  | 30, _ => exact xi_5 88 rfl rfl
  | 31, _ => exact xi_5 90 rfl rfl
  | 32, _ => exact xi_5 92 rfl rfl
  | 33, _ => exact xi_5 94 rfl rfl
  | 34, _ => exact xi_5 96 rfl rfl
  | 35, _ => exact xi_5 98 rfl rfl
  | 36, _ => exact xi_5 100 rfl rfl
  | 37, _ => exact xi_5 102 rfl rfl
  | 38, _ => exact xi_5 104 rfl rfl
  | 39, _ => exact xi_5 106 rfl rfl
  | 40, _ => exact xi_5 108 rfl rfl
  | 41, _ => exact xi_5 110 rfl rfl
  | 42, _ => exact xi_5 112 rfl rfl
  | 43, _ => exact xi_5 114 rfl rfl
  | 44, _ => exact xi_5 116 rfl rfl
  | 45, _ => exact xi_5 118 rfl rfl
  | 46, _ => exact xi_5 120 rfl rfl
  | 47, _ => exact xi_5 122 rfl rfl
  | 48, _ => exact xi_5 124 rfl rfl
  | 49, _ => exact xi_5 126 rfl rfl
  | 50, _ => exact xi_5 128 rfl rfl
  | j + 51, hj => exact absurd hj (by omega)
theorem xclo_10 : xclo vwCl xTs 10 RX10 TX10 51 tyX10 := ⟨rfl, xu_10, tyX10_ok, nmX10⟩
end
section
/-! ===== the tables of numbers ===== -/
def xR : Nat → String
  | 0 => RX0
  | 1 => RX1
  | 2 => RX2
  | 3 => RX3
  | 4 => RX4
  | 5 => RX5
  | 6 => RX6
  | 7 => RX7
  | 8 => RX8
  | 9 => RX9
  | 10 => RX10
  | 11 => "IceBoatsLaw"
  | 12 => "java/lang/Math"
  | 13 => "java/lang/Integer"
  | 14 => "java/lang/Long"
  | _ => ""
def xTY : Nat → Option FieldType
  | 0 => some .int
  | 1 => some .long
  | 2 => some .boolean
  | 3 => some (.object "IceBoats$Row")
  | 4 => some (.object "IceBoats$Boat")
  | 5 => some (.object "IceBoats$Word")
  | 6 => some (.object "IceBoats$Look")
  | _ => none
def xTC : Nat → Option Nat
  | 3 => some 4
  | 4 => some 0
  | 5 => some 8
  | 6 => some 2
  | _ => none
def xFT (c f : Nat) : Option FieldType := match c with
  | 0 => some (tyX0 f)
  | 1 => some (tyX1 f)
  | 2 => some (tyX2 f)
  | 3 => some (tyX3 f)
  | 4 => some (tyX4 f)
  | 5 => some (tyX5 f)
  | 6 => some (tyX6 f)
  | 7 => some (tyX7 f)
  | 8 => some (tyX8 f)
  | 9 => some (tyX9 f)
  | 10 => some (tyX10 f)
  | _ => none
def xfin (c f : Nat) : Bool := match c with
  | 0 => (TX0 f).2.2.2
  | 1 => (TX1 f).2.2.2
  | 2 => (TX2 f).2.2.2
  | 3 => (TX3 f).2.2.2
  | 4 => (TX4 f).2.2.2
  | 5 => (TX5 f).2.2.2
  | 6 => (TX6 f).2.2.2
  | 7 => (TX7 f).2.2.2
  | 8 => (TX8 f).2.2.2
  | 9 => (TX9 f).2.2.2
  | 10 => (TX10 f).2.2.2
  | _ => false
def xFD : Nat → Option (List XV)
  | 0 => some [.inr (.inr (0, 0)), xi 0, xi 0, xi 0, .inr (.inl (some 0)), xi 0, xi 0, xi 0, xi 0, xi 0, xi 0, .inr (.inr (0, 0))]
  | 1 => some [.inr (.inr (0, 0)), .inr (.inr (0, 0)), .inr (.inr (0, 0)), .inr (.inr (0, 0))]
  | 2 => some [xi 0, xi 0, xi 0, xi 0]
  | 3 => some [.inr (.inr (0, 0)), .inr (.inr (0, 0)), xi 0, xi 0]
  | 4 => some [.inr (.inr (0, 0)), xi 0]
  | 5 => some [.inr (.inr (0, 0))]
  | 6 => some [.inr (.inr (0, 0)), .inr (.inr (0, 0)), .inr (.inr (0, 0)), .inr (.inr (0, 0)), .inr (.inr (0, 0)), .inr (.inr (0, 0)), .inr (.inl (some 0)), xi 0]
  | 7 => some [.inr (.inr (0, 0)), .inr (.inl (some 0))]
  | 8 => some [xi 0, xi 0, xi 0, xi 0, .inr (.inl (some 0)), .inr (.inr (0, 0)), .inr (.inr (0, 0))]
  | 9 => some [.inr (.inr (0, 0)), .inr (.inr (0, 0)), .inr (.inr (0, 0)), .inr (.inr (0, 0)), .inr (.inr (0, 0)), .inr (.inr (0, 0)), .inr (.inr (0, 0)), .inr (.inr (0, 0)), .inr (.inr (0, 0)), .inr (.inr (0, 0)), xi 0, xi 0, xi 0, xi 0, xi 0, xi 0, .inr (.inl (some 0)), .inr (.inl (some 0)), .inr (.inl (some 0))]
  | 10 => some [xi 0, .inr (.inr (0, 0)), xi 0, .inr (.inl (some 0)), .inr (.inl (some 0)), .inr (.inl (some 0)), xi 0, .inr (.inr (0, 0)), .inr (.inr (0, 0)), .inr (.inr (0, 0)), .inr (.inr (0, 0)), .inr (.inr (0, 0)), .inr (.inr (0, 0)), .inr (.inr (0, 0)), .inr (.inr (0, 0)), .inr (.inr (0, 0)), .inr (.inr (0, 0)), xi 0, xi 0, .inr (.inr (0, 0)), .inr (.inr (0, 0)), .inr (.inr (0, 0)), .inr (.inr (0, 0)), .inr (.inr (0, 0)), .inr (.inr (0, 0)), .inr (.inr (0, 0)), .inr (.inr (0, 0)), .inr (.inr (0, 0)), .inr (.inr (0, 0)), .inr (.inr (0, 0)), xi 0, .inr (.inr (0, 0)), .inr (.inr (0, 0)), .inr (.inr (0, 0)), .inr (.inr (0, 0)), .inr (.inr (0, 0)), xi 0, .inr (.inr (0, 0)), .inr (.inr (0, 0)), .inr (.inr (0, 0)), .inr (.inr (0, 0)), .inr (.inr (0, 0)), .inr (.inr (0, 0)), .inr (.inr (0, 0)), .inr (.inr (0, 0)), .inr (.inr (0, 0)), .inr (.inr (0, 0)), .inr (.inr (0, 0)), .inr (.inr (0, 0)), .inr (.inr (0, 0)), .inr (.inl (some 0))]
  | _ => none
def xSV : List (String × String × String × Nat) := [("IceBoats", "BOAT_KIND_ABOVE", "[I", 0), ("IceBoats", "STEP_X", "[I", 1), ("IceBoats", "STEP_Y", "[I", 2), ("IceBoats", "WORD_KIND_ABOVE", "[I", 3), ("IceBoats", "LETTER_BYTES", "[I", 4)]
def xNW : List (String × Nat × MethodName × String) := [(RX6, 30, yX7_init, "IceBoats"), (RX9, 45, yX5_init, "IceBoats"), (RX9, 52, yX3_init, "IceBoats"), (RX9, 59, yX1_init, "IceBoats"), (RX9, 76, yX4_init, "IceBoats"), (RX9, 77, yX0_init, "IceBoats"), (RX6, 41, yX9_hasBit, "IceBoats"), (RX6, 63, yX9_stepsBetween, "IceBoats")]
def xNF : List (String × Nat × String × String × String × String) := [(RX6, 49, "IceBoats", "STEP_X", "[I", "IceBoats"), (RX6, 52, "IceBoats", "STEP_Y", "[I", "IceBoats"), (RX5, 36, "IceBoats", "LETTER_BYTES", "[I", "IceBoats")]
def xFL : List (Nat × Nat × Nat × Nat × Int) := [(9, 11, 9, 0, 0), (9, 15, 9, 1, 0), (9, 21, 9, 2, 0), (9, 27, 9, 3, 0), (9, 33, 9, 4, 0), (9, 39, 9, 5, 0), (9, 46, 9, 6, 0), (9, 53, 9, 7, 0), (9, 60, 9, 8, 0), (9, 64, 9, 9, 0), (9, 68, 9, 13, 0), (9, 72, 9, 18, 0), (6, 9, 6, 0, 0), (6, 15, 6, 1, 0), (6, 18, 6, 2, 0), (6, 21, 6, 3, 0), (6, 24, 6, 4, 0), (6, 31, 6, 5, 0), (7, 9, 7, 0, 0), (5, 9, 5, 0, 0), (3, 9, 3, 0, 0), (3, 15, 3, 1, 0), (1, 11, 1, 0, 0), (1, 15, 1, 1, 0), (1, 18, 1, 2, 0), (1, 21, 1, 3, 0), (4, 9, 4, 0, 0), (4, 15, 4, 1, 0), (0, 9, 0, 0, 0), (0, 15, 0, 3, 0), (0, 19, 0, 4, 0), (0, 23, 0, 5, 0), (0, 26, 0, 7, 0), (9, 444, 9, 14, 0), (9, 98, 4, 0, 0), (9, 364, 9, 15, 0), (9, 104, 4, 1, 0), (9, 120, 6, 7, 0), (9, 218, 0, 2, 0), (6, 37, 6, 6, 0), (9, 139, 6, 0, 0), (9, 145, 6, 2, 0), (9, 152, 6, 3, 0), (9, 159, 9, 12, 0), (0, 29, 0, 1, 0), (0, 32, 0, 2, 0), (0, 35, 0, 6, 0), (0, 38, 0, 8, 0), (9, 170, 0, 1, 0), (9, 185, 0, 3, 0), (9, 191, 0, 4, 0), (9, 476, 0, 6, 0), (9, 215, 9, 11, 0), (9, 367, 2, 3, 0), (9, 176, 0, 9, 0), (9, 179, 0, 10, 0), (9, 188, 0, 8, 0), (9, 428, 9, 16, 0), (9, 201, 0, 5, 0), (9, 267, 9, 10, 0), (9, 308, 8, 6, 0), (8, 15, 8, 6, 0), (8, 9, 8, 5, 0), (9, 282, 8, 0, 0), (9, 286, 8, 4, 0), (9, 503, 8, 2, 0), (9, 289, 8, 3, 0), (6, 79, 7, 0, 0), (7, 15, 7, 1, 0), (7, 23, 6, 4, 0), (7, 28, 6, 6, 0), (9, 223, 0, 11, 0), (2, 7, 2, 0, 0), (2, 13, 2, 1, 0), (2, 16, 2, 2, 0), (2, 19, 2, 3, 0), (9, 233, 2, 2, 0), (9, 236, 2, 1, 0), (9, 261, 0, 7, 0), (8, 18, 8, 0, 0), (8, 22, 8, 1, 0), (8, 25, 8, 2, 0), (8, 28, 8, 3, 0), (8, 31, 8, 4, 0), (9, 299, 8, 1, 0), (9, 510, 8, 5, 0), (5, 15, 4, 1, 0), (5, 21, 4, 0, 0), (9, 341, 0, 0, 0), (9, 344, 5, 0, 0), (9, 370, 2, 0, 0), (9, 388, 3, 3, 0), (9, 391, 3, 2, 0), (6, 66, 4, 1, 0), (6, 72, 4, 0, 0), (3, 19, 3, 2, 0), (3, 33, 3, 3, 0), (9, 407, 1, 0, 0), (9, 431, 9, 17, 0), (10, 7, 10, 1, 0), (10, 13, 10, 5, 0), (10, 17, 10, 7, 0), (10, 20, 10, 8, 0), (10, 23, 10, 9, 0), (10, 26, 10, 10, 0), (10, 29, 10, 11, 0), (10, 32, 10, 12, 0), (10, 36, 10, 13, 0), (10, 39, 10, 14, 0), (10, 42, 10, 15, 0), (10, 45, 10, 16, 0), (10, 48, 10, 18, 0), (10, 52, 10, 19, 0), (10, 55, 10, 20, 0), (10, 58, 10, 21, 0), (10, 61, 10, 22, 0), (10, 64, 10, 23, 0), (10, 68, 10, 24, 0), (10, 71, 10, 25, 0), (10, 74, 10, 26, 0), (10, 77, 10, 27, 0), (10, 80, 10, 28, 0), (10, 83, 10, 29, 0), (10, 86, 10, 31, 0), (10, 89, 10, 32, 0), (10, 92, 10, 33, 0), (10, 95, 10, 34, 0), (10, 98, 10, 35, 0), (10, 101, 10, 37, 0), (10, 104, 10, 38, 0), (10, 107, 10, 39, 0), (10, 110, 10, 40, 0), (10, 113, 10, 41, 0), (10, 116, 10, 42, 0), (10, 119, 10, 43, 0), (10, 122, 10, 44, 0), (10, 125, 10, 45, 0), (10, 128, 10, 46, 0), (10, 131, 10, 47, 0), (10, 134, 10, 48, 0), (10, 137, 10, 49, 0), (10, 140, 10, 0, 0), (10, 143, 10, 2, 0), (10, 178, 10, 17, 0), (10, 207, 10, 6, 0), (10, 210, 10, 30, 0), (10, 223, 10, 3, 0), (10, 250, 10, 36, 0), (10, 305, 10, 4, 0), (10, 328, 10, 50, 0)]
def xMV : List (Nat × Nat × Nat × Nat × Int) := [(9, 78, 9, 2, 0), (9, 82, 10, 2, 0), (9, 86, 11, 3, 0), (9, 90, 13, 1, 0), (9, 94, 14, 3, 0), (9, 101, 15, 2, 0), (9, 113, 20, 2, 0), (9, 123, 24, 2, 0), (9, 126, 25, 2, 0), (9, 129, 27, 3, 0), (9, 142, 31, 3, 0), (9, 148, 33, 3, 0), (6, 45, 25, 2, 0), (9, 155, 38, 2, 0), (9, 162, 40, 5, 0), (9, 166, 42, 4, 0), (9, 473, 44, 2, 0), (9, 182, 46, 2, 0), (9, 194, 48, 2, 0), (9, 198, 50, 1, 0), (9, 204, 52, 2, 0), (9, 208, 57, 2, 0), (9, 211, 71, 2, 0), (9, 479, 53, 3, 0), (9, 482, 54, 1, 0), (9, 485, 55, 2, 0), (9, 488, 56, 3, 0), (6, 55, 53, 3, 0), (6, 59, 55, 2, 0), (9, 493, 58, 3, 0), (9, 496, 59, 2, 0), (9, 499, 60, 4, 0), (9, 504, 61, 3, 0), (9, 242, 65, 2, 0), (9, 507, 66, 3, 0), (9, 350, 69, 3, 0), (6, 75, 62, 2, 0), (6, 82, 63, 2, 0), (9, 227, 67, 2, 0), (0, 41, 50, 1, 0), (9, 231, 75, 2, 0), (9, 238, 77, 2, 0), (9, 251, 80, 2, 0), (9, 254, 81, 4, 0), (9, 258, 83, 3, 0), (9, 264, 84, 3, 0), (9, 273, 86, 3, 0), (9, 277, 88, 2, 0), (9, 281, 89, 2, 0), (9, 292, 91, 2, 0), (9, 295, 92, 1, 0), (9, 314, 96, 2, 0), (9, 317, 97, 4, 0), (9, 321, 99, 5, 0), (9, 513, 98, 4, 0), (9, 329, 101, 5, 0), (9, 337, 104, 2, 0), (9, 353, 111, 2, 0), (9, 375, 118, 2, 0), (9, 378, 121, 1, 0), (9, 381, 122, 4, 0), (9, 385, 126, 1, 0), (9, 525, 124, 3, 0), (9, 529, 125, 4, 0), (3, 23, 127, 4, 0), (9, 398, 129, 2, 0), (9, 401, 132, 4, 0), (9, 410, 134, 3, 0), (1, 24, 130, 1, 0), (1, 27, 131, 1, 0), (1, 30, 53, 3, 0), (1, 36, 55, 2, 0), (1, 40, 133, 4, 0), (9, 418, 138, 3, 0), (9, 422, 140, 1, 0), (9, 425, 141, 1, 0), (9, 537, 139, 2, 0), (9, 434, 147, 1, 0), (9, 437, 148, 2, 0), (9, 451, 146, 2, 0), (9, 454, 153, 2, 0), (9, 458, 154, 2, 0), (9, 461, 155, 2, 0), (10, 158, 161, 2, 0), (10, 165, 163, 2, 0), (10, 168, 164, 3, 0), (10, 172, 168, 3, 0), (10, 175, 172, 2, 0), (10, 184, 175, 2, 0), (10, 193, 180, 3, 0), (10, 200, 185, 2, 0), (10, 197, 186, 3, 0), (10, 220, 190, 3, 0), (10, 217, 193, 2, 0), (10, 226, 197, 2, 0), (10, 234, 199, 2, 0), (10, 237, 201, 2, 0), (10, 230, 200, 1, 0), (10, 253, 202, 3, 0), (10, 263, 203, 3, 0), (10, 266, 204, 3, 0), (10, 240, 209, 2, 0), (10, 243, 210, 3, 0), (10, 246, 214, 3, 0), (10, 269, 216, 2, 0), (10, 272, 217, 3, 0), (10, 282, 221, 5, 0), (10, 275, 222, 3, 0), (10, 278, 223, 4, 0), (10, 289, 226, 2, 0), (10, 292, 232, 2, 0), (10, 295, 233, 5, 0), (10, 298, 236, 3, 0), (10, 301, 237, 3, 0), (10, 308, 239, 4, 0), (10, 315, 240, 3, 0), (10, 319, 242, 5, 0), (10, 323, 248, 2, 0), (10, 331, 252, 2, 0), (10, 337, 253, 1, 0), (10, 340, 254, 1, 0), (11, 13, 8, 3, 0), (11, 17, 158, 3, 0), (11, 18, 12, 4, 0), (11, 22, 162, 4, 0), (11, 23, 16, 2, 0), (11, 27, 165, 2, 0), (11, 28, 17, 6, 0), (11, 32, 166, 6, 0), (11, 33, 18, 2, 0), (11, 36, 167, 2, 0), (11, 37, 19, 3, 0), (11, 40, 169, 3, 0), (11, 41, 21, 4, 0), (11, 44, 171, 4, 0), (11, 45, 22, 3, 0), (11, 49, 173, 3, 0), (11, 50, 28, 5, 0), (11, 54, 176, 5, 0), (11, 55, 32, 3, 0), (11, 58, 179, 3, 0), (11, 59, 34, 3, 0), (11, 62, 181, 3, 0), (11, 63, 35, 2, 0), (11, 66, 182, 2, 0), (11, 67, 36, 2, 0), (11, 70, 183, 2, 0), (11, 71, 37, 5, 0), (11, 74, 187, 5, 0), (11, 75, 41, 3, 0), (11, 78, 189, 3, 0), (11, 79, 45, 3, 0), (11, 82, 194, 3, 0), (11, 83, 47, 2, 0), (11, 86, 195, 2, 0), (11, 87, 49, 3, 0), (11, 90, 196, 3, 0), (11, 91, 51, 1, 0), (11, 95, 198, 1, 0), (11, 96, 72, 2, 0), (11, 99, 207, 2, 0), (11, 100, 74, 3, 0), (11, 103, 208, 3, 0), (11, 104, 76, 2, 0), (11, 107, 211, 2, 0), (11, 108, 78, 2, 0), (11, 111, 212, 2, 0), (11, 112, 79, 3, 0), (11, 115, 184, 3, 0), (11, 116, 82, 4, 0), (11, 119, 213, 4, 0), (11, 120, 87, 3, 0), (11, 123, 215, 3, 0), (11, 124, 90, 3, 0), (11, 127, 218, 3, 0), (11, 128, 93, 3, 0), (11, 131, 219, 3, 0), (11, 132, 94, 5, 0), (11, 135, 220, 5, 0), (11, 136, 100, 4, 0), (11, 139, 224, 4, 0), (11, 140, 103, 2, 0), (11, 143, 225, 2, 0), (11, 144, 108, 3, 0), (11, 147, 228, 3, 0), (11, 148, 109, 3, 0), (11, 151, 229, 3, 0), (11, 152, 110, 2, 0), (11, 155, 230, 2, 0), (11, 156, 112, 4, 0), (11, 159, 231, 4, 0), (11, 160, 115, 2, 0), (11, 163, 234, 2, 0), (11, 164, 116, 3, 0), (11, 167, 235, 3, 0), (11, 168, 128, 3, 0), (11, 171, 238, 3, 0), (11, 172, 135, 4, 0), (11, 175, 241, 4, 0), (11, 176, 142, 1, 0), (11, 179, 243, 1, 0), (11, 180, 143, 1, 0), (11, 184, 244, 1, 0), (11, 185, 144, 1, 0), (11, 188, 245, 1, 0), (11, 189, 145, 1, 0), (11, 192, 246, 1, 0), (11, 193, 146, 2, 0), (11, 196, 247, 2, 0), (11, 197, 150, 1, 0), (11, 200, 249, 1, 0), (11, 201, 151, 2, 0), (11, 204, 250, 2, 0), (11, 205, 152, 1, 0), (11, 208, 251, 1, 0)]
def xMS : List (Nat × Nat × Nat × Nat × Int) := [(9, 116, 23, 1, 0), (6, 41, 26, 2, 0), (9, 133, 29, 1, 0), (9, 136, 30, 1, 0), (9, 305, 39, 1, 0), (9, 246, 43, 1, 0), (9, 325, 26, 2, 0), (9, 347, 68, 1, 0), (7, 19, 64, 1, 0), (6, 63, 70, 2, 0), (9, 470, 7002, 1, 0), (9, 332, 7000, 2, 0), (9, 302, 70, 2, 0), (9, 311, 95, 1, 0), (9, 516, 102, 2, 0), (5, 24, 105, 1, 0), (5, 28, 106, 2, 0), (5, 32, 107, 3, 0), (9, 356, 113, 1, 0), (9, 360, 114, 4, 0), (9, 371, 117, 1, 0), (9, 394, 119, 2, 0), (9, 519, 120, 1, 0), (9, 522, 123, 1, 0), (3, 27, 43, 1, 0), (1, 44, 7001, 2, 0), (9, 414, 136, 2, 0), (9, 533, 137, 2, 0), (9, 440, 149, 1, 0), (9, 464, 156, 2, 0), (10, 154, 159, 1, 0), (10, 146, 160, 3, 0), (10, 162, 170, 1, 0), (10, 181, 174, 1, 0), (10, 187, 177, 1, 0), (10, 190, 178, 1, 0), (10, 204, 188, 1, 0), (10, 213, 191, 1, 0), (10, 150, 192, 2, 0), (10, 257, 205, 1, 0), (10, 260, 206, 2, 0), (10, 286, 227, 1, 0)]
def xMI : List (Nat × Nat × Nat × Nat × Int) := [(9, 20, 1, 1, 0), (9, 45, 3, 1, 0), (9, 52, 4, 1, 0), (9, 59, 5, 1, 0), (9, 76, 6, 1, 0), (9, 77, 7, 1, 0), (6, 30, 2, 1, 0), (9, 221, 73, 5, 0), (9, 270, 85, 6, 0), (11, 9, 0, 1, 0), (11, 12, 157, 1, 0)]
def xOI : List (Nat × Nat × Nat × Nat × Int) := [(9, 3, 0, 0, 0), (6, 3, 0, 0, 0), (7, 3, 0, 0, 0), (5, 3, 0, 0, 0), (3, 3, 0, 0, 0), (1, 5, 0, 0, 0), (4, 3, 0, 0, 0), (0, 3, 0, 0, 0), (2, 1, 0, 0, 0), (8, 3, 0, 0, 0), (10, 1, 0, 0, 0)]
def xCL : List (Nat × Nat × Nat × Nat × Int) := [(9, 18, 6, 0, 0), (9, 43, 5, 0, 0), (9, 50, 3, 0, 0), (9, 57, 1, 0, 0), (9, 9, 4, 0, 0), (9, 25, 0, 0, 0), (6, 28, 7, 0, 0), (9, 37, 2, 0, 0), (9, 31, 8, 0, 0), (11, 7, 9, 0, 0), (11, 10, 10, 0, 0)]
def xAL : List (Nat × Nat × Nat × Nat × Int) := [(9, 9, 3, 0, 0), (9, 25, 4, 0, 0), (9, 31, 5, 0, 0), (9, 37, 6, 0, 0)]
def xKI : List (Nat × Nat × Nat × Nat × Int) := [(9, 492, 0, 0, 1103515245), (13, 265, 0, 0, 1431655765), (13, 266, 0, 0, 858993459), (13, 267, 0, 0, 252645135), (10, 196, 0, 0, 100000), (10, 229, 0, 0, 1103515245)]
def xKL : List (Nat × Nat × Nat × Nat × Int) := [(6, 35, 0, 0, (-1)), (14, 314, 0, 0, 6148914691236517205), (14, 316, 0, 0, 3689348814741910323), (14, 318, 0, 0, 1085102592571150095), (7, 31, 0, 0, (-1)), (7, 33, 0, 0, (-72340172838076674)), (7, 35, 0, 0, 9187201950435737471), (9, 405, 0, 0, 4), (9, 468, 0, 0, 2), (9, 447, 0, 0, 17), (9, 449, 0, 0, 31), (10, 311, 0, 0, 4), (10, 313, 0, 0, 3), (10, 335, 0, 0, 17), (10, 343, 0, 0, (-1)), (10, 326, 0, 0, 31)]
def xGS : List (Nat × Nat × Nat × Nat × Int) := [(9, 173, 0, 0, 0), (6, 49, 1, 0, 0), (6, 52, 2, 0, 0), (9, 283, 3, 0, 0), (5, 36, 4, 0, 0)]
end
section
/-! ===== methods 0 on ===== -/
def xm0 : XM := (yX9_init, cX9_init, 2, none, 3, 65, 100, 2000, 9, [[some (.aload_n 0, 0, 0, 0), some (.invokespecial 3, 9999, 0, 0), none, none, some (.aload_n 0, 0, 0, 0), some (.bipush 6, 0, 0, 6), none, some (.anewarray 9, 3, 0, 0), none, none, some (.putfield 11, 9, 0, 0), none, none, some (.aload_n 0, 0, 0, 0), some (.iconst 4, 0, 0, 4), some (.anewarray 9, 3, 0, 0)],
  [none, none, some (.putfield 15, 9, 1, 0), none, none, some (.aload_n 0, 0, 0, 0), some (.new 18, 6, 0, 0), none, none, some (.dup, 0, 0, 0), some (.invokespecial 20, 1, 1, 0), none, none, some (.putfield 21, 9, 2, 0), none, none],
  [some (.aload_n 0, 0, 0, 0), some (.bipush 6, 0, 0, 6), none, some (.anewarray 25, 4, 0, 0), none, none, some (.putfield 27, 9, 3, 0), none, none, some (.aload_n 0, 0, 0, 0), some (.bipush 40, 0, 0, 40), none, some (.anewarray 31, 5, 0, 0), none, none, some (.putfield 33, 9, 4, 0)],
  [none, none, some (.aload_n 0, 0, 0, 0), some (.bipush 40, 0, 0, 40), none, some (.anewarray 37, 6, 0, 0), none, none, some (.putfield 39, 9, 5, 0), none, none, some (.aload_n 0, 0, 0, 0), some (.new 43, 5, 0, 0), none, none, some (.dup, 0, 0, 0)],
  [some (.invokespecial 45, 3, 1, 0), none, none, some (.putfield 46, 9, 6, 0), none, none, some (.aload_n 0, 0, 0, 0), some (.new 50, 3, 0, 0), none, none, some (.dup, 0, 0, 0), some (.invokespecial 52, 4, 1, 0), none, none, some (.putfield 53, 9, 7, 0), none],
  [none, some (.aload_n 0, 0, 0, 0), some (.new 57, 1, 0, 0), none, none, some (.dup, 0, 0, 0), some (.invokespecial 59, 5, 1, 0), none, none, some (.putfield 60, 9, 8, 0), none, none, some (.aload_n 0, 0, 0, 0), some (.bipush 6, 0, 0, 6), none, some (.newarray .int, 0, 0, 0)],
  [none, some (.putfield 64, 9, 9, 0), none, none, some (.aload_n 0, 0, 0, 0), some (.iconst 1, 0, 0, 1), some (.putfield 68, 9, 13, 0), none, none, some (.aload_n 0, 0, 0, 0), some (.lconst 1, 0, 0, 1), some (.putfield 72, 9, 18, 0), none, none, some (.iconst 0, 0, 0, 0), some (.istore_n 1, 0, 0, 0)],
  [some (.iload_n 1, 0, 0, 0), some (.bipush 6, 0, 0, 6), none, some (.if_icmp .ge 22, 137, 0, 0), none, none, some (.aload_n 0, 0, 0, 0), some (.getfield 11, 9, 0, 0), none, none, some (.iload_n 1, 0, 0, 0), some (.new 9, 4, 0, 0), none, none, some (.dup, 0, 0, 0), some (.invokespecial 76, 6, 1, 0)],
  [none, none, some (.aastore, 0, 0, 0), some (.iinc 1 1, 0, 0, 1), none, none, some (.goto (-22), 112, 0, 0), none, none, some (.iconst 0, 0, 0, 0), some (.istore_n 1, 0, 0, 0), some (.iload_n 1, 0, 0, 0), some (.iconst 4, 0, 0, 4), some (.if_icmp .ge 22, 163, 0, 0), none, none],
  [some (.aload_n 0, 0, 0, 0), some (.getfield 15, 9, 1, 0), none, none, some (.iload_n 1, 0, 0, 0), some (.new 9, 4, 0, 0), none, none, some (.dup, 0, 0, 0), some (.invokespecial 76, 6, 1, 0), none, none, some (.aastore, 0, 0, 0), some (.iinc 1 1, 0, 0, 1), none, none],
  [some (.goto (-21), 139, 0, 0), none, none, some (.iconst 0, 0, 0, 0), some (.istore_n 1, 0, 0, 0), some (.iload_n 1, 0, 0, 0), some (.bipush 6, 0, 0, 6), none, some (.if_icmp .ge 22, 190, 0, 0), none, none, some (.aload_n 0, 0, 0, 0), some (.getfield 27, 9, 3, 0), none, none, some (.iload_n 1, 0, 0, 0)],
  [some (.new 25, 0, 0, 0), none, none, some (.dup, 0, 0, 0), some (.invokespecial 77, 7, 1, 0), none, none, some (.aastore, 0, 0, 0), some (.iinc 1 1, 0, 0, 1), none, none, some (.goto (-22), 165, 0, 0), none, none, some (.return_, 0, 0, 0), none]])
def xm1 : XM := (yX6_init, cX6_init, 2, none, 2, 44, 7, 300, 6, [[some (.aload_n 0, 0, 0, 0), some (.invokespecial 3, 9999, 0, 0), none, none, some (.aload_n 0, 0, 0, 0), some (.bipush 64, 0, 0, 64), none, some (.newarray .int, 0, 0, 0), none, some (.putfield 9, 6, 0, 0), none, none, some (.aload_n 0, 0, 0, 0), some (.bipush 64, 0, 0, 64), none, some (.newarray .int, 0, 0, 0)],
  [none, some (.putfield 15, 6, 1, 0), none, none, some (.aload_n 0, 0, 0, 0), some (.bipush 64, 0, 0, 64), none, some (.newarray .int, 0, 0, 0), none, some (.putfield 18, 6, 2, 0), none, none, some (.aload_n 0, 0, 0, 0), some (.bipush 64, 0, 0, 64), none, some (.newarray .int, 0, 0, 0)],
  [none, some (.putfield 21, 6, 3, 0), none, none, some (.aload_n 0, 0, 0, 0), some (.iconst 5, 0, 0, 5), some (.newarray .long, 1, 0, 0), none, some (.putfield 24, 6, 4, 0), none, none, some (.aload_n 0, 0, 0, 0), some (.new 28, 7, 0, 0), none, none, some (.dup, 0, 0, 0)],
  [some (.invokespecial 30, 2, 1, 0), none, none, some (.putfield 31, 6, 5, 0), none, none, some (.iconst 0, 0, 0, 0), some (.istore_n 1, 0, 0, 0), some (.iload_n 1, 0, 0, 0), some (.bipush 64, 0, 0, 64), none, some (.if_icmp .ge 24, 83, 0, 0), none, none, some (.aload_n 0, 0, 0, 0), some (.getfield 15, 6, 1, 0)],
  [none, none, some (.iload_n 1, 0, 0, 0), some (.iconst 1, 0, 0, 1), some (.iastore, 0, 0, 0), some (.aload_n 0, 0, 0, 0), some (.getfield 21, 6, 3, 0), none, none, some (.iload_n 1, 0, 0, 0), some (.bipush (-9), 0, 0, (-9)), none, some (.iastore, 0, 0, 0), some (.iinc 1 1, 0, 0, 1), none, none],
  [some (.goto (-24), 56, 0, 0), none, none, some (.aload_n 0, 0, 0, 0), some (.getfield 24, 6, 4, 0), none, none, some (.iconst 1, 0, 0, 1), some (.ldc2_w 35, 0, 0, (-1)), none, none, some (.lastore, 0, 0, 0), some (.return_, 0, 0, 0), none, none, none]])
def xm2 : XM := (yX7_init, cX7_init, 1, none, 1, 24, 1, 4, 7, [[some (.aload_n 0, 0, 0, 0), some (.invokespecial 3, 9999, 0, 0), none, none, some (.aload_n 0, 0, 0, 0), some (.iconst 4, 0, 0, 4), some (.newarray .long, 1, 0, 0), none, some (.putfield 9, 7, 0, 0), none, none, some (.return_, 0, 0, 0), none, none, none, none]])
def xm3 : XM := (yX5_init, cX5_init, 1, none, 1, 24, 1, 4, 5, [[some (.aload_n 0, 0, 0, 0), some (.invokespecial 3, 9999, 0, 0), none, none, some (.aload_n 0, 0, 0, 0), some (.iconst 4, 0, 0, 4), some (.newarray .int, 0, 0, 0), none, some (.putfield 9, 5, 0, 0), none, none, some (.return_, 0, 0, 0), none, none, none, none]])
def xm4 : XM := (yX3_init, cX3_init, 1, none, 1, 24, 2, 42, 3, [[some (.aload_n 0, 0, 0, 0), some (.invokespecial 3, 9999, 0, 0), none, none, some (.aload_n 0, 0, 0, 0), some (.bipush 21, 0, 0, 21), none, some (.newarray .long, 1, 0, 0), none, some (.putfield 9, 3, 0, 0), none, none, some (.aload_n 0, 0, 0, 0), some (.bipush 21, 0, 0, 21), none, some (.newarray .boolean, 2, 0, 0)],
  [none, some (.putfield 15, 3, 1, 0), none, none, some (.return_, 0, 0, 0), none, none, none, none, none, none, none, none, none, none, none]])
def xm5 : XM := (yX1_init, cX1_init, 1, none, 1, 24, 4, 256, 1, [[some (.aload_n 0, 0, 0, 0), some (.invokespecial 5, 9999, 0, 0), none, none, some (.aload_n 0, 0, 0, 0), some (.bipush 64, 0, 0, 64), none, some (.newarray .int, 0, 0, 0), none, some (.putfield 11, 1, 0, 0), none, none, some (.aload_n 0, 0, 0, 0), some (.bipush 64, 0, 0, 64), none, some (.newarray .int, 0, 0, 0)],
  [none, some (.putfield 15, 1, 1, 0), none, none, some (.aload_n 0, 0, 0, 0), some (.bipush 64, 0, 0, 64), none, some (.newarray .int, 0, 0, 0), none, some (.putfield 18, 1, 2, 0), none, none, some (.aload_n 0, 0, 0, 0), some (.bipush 64, 0, 0, 64), none, some (.newarray .int, 0, 0, 0)],
  [none, some (.putfield 21, 1, 3, 0), none, none, some (.return_, 0, 0, 0), none, none, none, none, none, none, none, none, none, none, none]])
def xm6 : XM := (yX4_init, cX4_init, 1, none, 1, 24, 1, 40, 4, [[some (.aload_n 0, 0, 0, 0), some (.invokespecial 3, 9999, 0, 0), none, none, some (.aload_n 0, 0, 0, 0), some (.bipush 40, 0, 0, 40), none, some (.newarray .int, 0, 0, 0), none, some (.putfield 9, 4, 0, 0), none, none, some (.aload_n 0, 0, 0, 0), some (.iconst (-1), 0, 0, (-1)), some (.putfield 15, 4, 1, 0), none],
  [none, some (.return_, 0, 0, 0), none, none, none, none, none, none, none, none, none, none, none, none, none, none]])
def xm7 : XM := (yX0_init, cX0_init, 1, none, 1, 24, 1, 4, 0, [[some (.aload_n 0, 0, 0, 0), some (.invokespecial 3, 9999, 0, 0), none, none, some (.aload_n 0, 0, 0, 0), some (.iconst 4, 0, 0, 4), some (.newarray .int, 0, 0, 0), none, some (.dup, 0, 0, 0), some (.iconst 0, 0, 0, 0), some (.bipush (-9), 0, 0, (-9)), none, some (.iastore, 0, 0, 0), some (.dup, 0, 0, 0), some (.iconst 1, 0, 0, 1), some (.bipush (-9), 0, 0, (-9))],
  [none, some (.iastore, 0, 0, 0), some (.dup, 0, 0, 0), some (.iconst 2, 0, 0, 2), some (.bipush (-9), 0, 0, (-9)), none, some (.iastore, 0, 0, 0), some (.dup, 0, 0, 0), some (.iconst 3, 0, 0, 3), some (.bipush (-9), 0, 0, (-9)), none, some (.iastore, 0, 0, 0), some (.putfield 9, 0, 0, 0), none, none, some (.aload_n 0, 0, 0, 0)],
  [some (.bipush 100, 0, 0, 100), none, some (.putfield 15, 0, 3, 0), none, none, some (.aload_n 0, 0, 0, 0), some (.lconst 1, 0, 0, 1), some (.putfield 19, 0, 4, 0), none, none, some (.aload_n 0, 0, 0, 0), some (.bipush (-9), 0, 0, (-9)), none, some (.putfield 23, 0, 5, 0), none, none],
  [some (.aload_n 0, 0, 0, 0), some (.bipush (-9), 0, 0, (-9)), none, some (.putfield 26, 0, 7, 0), none, none, some (.return_, 0, 0, 0), none, none, none, none, none, none, none, none, none]])
def xm8 : XM := (yX9_row, cX9_row, 4, (some .int), 1, 23, 0, 0, 9, [[some (.aload_n 0, 0, 0, 0), some (.iload_n 1, 0, 0, 0), some (.invokevirtual 78, 9, 2, 0), none, none, some (.astore_n 3, 0, 0, 0), some (.aload_n 3, 0, 0, 0), some (.ifnull 9, 16, 0, 0), none, none, some (.iload_n 2, 0, 0, 0), some (.bipush 40, 0, 0, 40), none, some (.if_icmp .le 5, 18, 0, 0), none, none],
  [some (.iconst (-1), 0, 0, (-1)), some (.ireturn, 0, 0, 0), some (.iload_n 2, 0, 0, 0), some (.ifCond .ge 9, 28, 0, 0), none, none, some (.aload_n 0, 0, 0, 0), some (.iconst 5, 0, 0, 5), some (.invokevirtual 82, 10, 2, 0), none, none, some (.ireturn, 0, 0, 0), some (.aload_n 3, 0, 0, 0), some (.iload_n 2, 0, 0, 0), some (.iconst 0, 0, 0, 0), some (.invokevirtual 86, 11, 3, 0)],
  [none, none, some (.iload_n 2, 0, 0, 0), some (.ireturn, 0, 0, 0), none, none, none, none, none, none, none, none, none, none, none, none]])
def xm9 : XM := (yX9_rowAt, cX9_rowAt, 2, (some (.object "IceBoats$Row")), 0, 0, 0, 0, 9, [[some (.iload_n 1, 0, 0, 0), some (.ifCond .lt 18, 19, 0, 0), none, none, some (.iload_n 1, 0, 0, 0), some (.bipush 6, 0, 0, 6), none, some (.if_icmp .ge 12, 19, 0, 0), none, none, some (.aload_n 0, 0, 0, 0), some (.getfield 11, 9, 0, 0), none, none, some (.iload_n 1, 0, 0, 0), some (.aaload, 0, 0, 0)],
  [some (.goto 4, 20, 0, 0), none, none, some (.aconst_null, 0, 0, 0), some (.areturn, 0, 0, 0), none, none, none, none, none, none, none, none, none, none, none]])
def xm10 : XM := (yX9_found, cX9_found, 2, (some .int), 0, 0, 0, 0, 9, [[some (.aload_n 0, 0, 0, 0), some (.iload_n 1, 0, 0, 0), some (.putfield 444, 9, 14, 0), none, none, some (.aload_n 0, 0, 0, 0), some (.getfield 64, 9, 9, 0), none, none, some (.iload_n 1, 0, 0, 0), some (.dup2, 0, 0, 0), some (.iaload, 0, 0, 0), some (.iconst 1, 0, 0, 1), some (.iadd, 0, 0, 0), some (.iastore, 0, 0, 0), some (.bipush (-3), 0, 0, (-3))],
  [none, some (.ireturn, 0, 0, 0), none, none, none, none, none, none, none, none, none, none, none, none, none, none]])
def xm11 : XM := (yX4_beAnew, cX4_beAnew, 4, none, 0, 0, 0, 0, 4, [[some (.aload_n 0, 0, 0, 0), some (.iload_n 1, 0, 0, 0), some (.putfield 15, 4, 1, 0), none, none, some (.iconst 0, 0, 0, 0), some (.istore_n 3, 0, 0, 0), some (.iload_n 3, 0, 0, 0), some (.iload_n 1, 0, 0, 0), some (.if_icmp .ge 16, 25, 0, 0), none, none, some (.aload_n 0, 0, 0, 0), some (.getfield 9, 4, 0, 0), none, none],
  [some (.iload_n 3, 0, 0, 0), some (.iload_n 2, 0, 0, 0), some (.iastore, 0, 0, 0), some (.iinc 3 1, 0, 0, 1), none, none, some (.goto (-15), 7, 0, 0), none, none, some (.return_, 0, 0, 0), none, none, none, none, none, none]])
def xm12 : XM := (yX9_lay, cX9_lay, 6, (some .int), 1, 22, 0, 0, 9, [[some (.aload_n 0, 0, 0, 0), some (.iload_n 1, 0, 0, 0), some (.invokevirtual 78, 9, 2, 0), none, none, some (.astore 4, 0, 0, 0), none, some (.aload 4, 0, 0, 0), none, some (.ifnonnull 5, 14, 0, 0), none, none, some (.iconst (-1), 0, 0, (-1)), some (.ireturn, 0, 0, 0), some (.aload 4, 0, 0, 0), none],
  [some (.invokevirtual 90, 13, 1, 0), none, none, some (.ifCond .eq 9, 28, 0, 0), none, none, some (.aload_n 0, 0, 0, 0), some (.iconst 1, 0, 0, 1), some (.invokevirtual 82, 10, 2, 0), none, none, some (.ireturn, 0, 0, 0), some (.aload 4, 0, 0, 0), none, some (.iload_n 2, 0, 0, 0), some (.iconst 1, 0, 0, 1)],
  [some (.invokevirtual 94, 14, 3, 0), none, none, some (.ifCond .ne 9, 44, 0, 0), none, none, some (.aload_n 0, 0, 0, 0), some (.iconst 2, 0, 0, 2), some (.invokevirtual 82, 10, 2, 0), none, none, some (.ireturn, 0, 0, 0), some (.aload 4, 0, 0, 0), none, some (.getfield 98, 4, 0, 0), none],
  [none, some (.iload_n 2, 0, 0, 0), some (.iaload, 0, 0, 0), some (.istore 5, 0, 0, 0), none, some (.aload 4, 0, 0, 0), none, some (.getfield 98, 4, 0, 0), none, none, some (.iload_n 2, 0, 0, 0), some (.iload_n 3, 0, 0, 0), some (.iastore, 0, 0, 0), some (.aload_n 0, 0, 0, 0), some (.iload 5, 0, 0, 0), none],
  [some (.invokevirtual 101, 15, 2, 0), none, none, some (.ireturn, 0, 0, 0), none, none, none, none, none, none, none, none, none, none, none, none]])
def xm13 : XM := (yX4_isMissing, cX4_isMissing, 1, (some .boolean), 0, 0, 0, 0, 4, [[some (.aload_n 0, 0, 0, 0), some (.getfield 15, 4, 1, 0), none, none, some (.ifCond .ge 7, 11, 0, 0), none, none, some (.iconst 1, 0, 0, 1), some (.goto 4, 12, 0, 0), none, none, some (.iconst 0, 0, 0, 0), some (.ireturn, 0, 0, 0), none, none, none]])
def xm14 : XM := (yX4_holds, cX4_holds, 3, (some .boolean), 0, 0, 0, 0, 4, [[some (.iload_n 1, 0, 0, 0), some (.ifCond .lt 29, 30, 0, 0), none, none, some (.iload_n 2, 0, 0, 0), some (.ifCond .lt 25, 30, 0, 0), none, none, some (.iload_n 2, 0, 0, 0), some (.aload_n 0, 0, 0, 0), some (.getfield 15, 4, 1, 0), none, none, some (.if_icmp .gt 17, 30, 0, 0), none, none],
  [some (.iload_n 1, 0, 0, 0), some (.aload_n 0, 0, 0, 0), some (.getfield 15, 4, 1, 0), none, none, some (.iload_n 2, 0, 0, 0), some (.isub, 0, 0, 0), some (.if_icmp .gt 7, 30, 0, 0), none, none, some (.iconst 1, 0, 0, 1), some (.goto 4, 31, 0, 0), none, none, some (.iconst 0, 0, 0, 0), some (.ireturn, 0, 0, 0)]])
def xm15 : XM := (yX9_tellAsked, cX9_tellAsked, 2, (some .int), 0, 0, 0, 0, 9, [[some (.aload_n 0, 0, 0, 0), some (.iload_n 1, 0, 0, 0), some (.putfield 364, 9, 15, 0), none, none, some (.iconst 1, 0, 0, 1), some (.ireturn, 0, 0, 0), none, none, none, none, none, none, none, none, none]])
def xm16 : XM := (yX9_tear, cX9_tear, 3, (some .int), 1, 21, 0, 0, 9, [[some (.aload_n 0, 0, 0, 0), some (.iload_n 1, 0, 0, 0), some (.invokevirtual 78, 9, 2, 0), none, none, some (.astore_n 2, 0, 0, 0), some (.aload_n 2, 0, 0, 0), some (.ifnonnull 5, 12, 0, 0), none, none, some (.iconst (-1), 0, 0, (-1)), some (.ireturn, 0, 0, 0), some (.aload_n 2, 0, 0, 0), some (.invokevirtual 90, 13, 1, 0), none, none],
  [some (.ifCond .eq 9, 25, 0, 0), none, none, some (.aload_n 0, 0, 0, 0), some (.iconst 1, 0, 0, 1), some (.invokevirtual 82, 10, 2, 0), none, none, some (.ireturn, 0, 0, 0), some (.aload_n 2, 0, 0, 0), some (.iconst (-1), 0, 0, (-1)), some (.putfield 104, 4, 1, 0), none, none, some (.iconst 1, 0, 0, 1), some (.ireturn, 0, 0, 0)]])
def xm17 : XM := (yX9_copy, cX9_copy, 8, (some .int), 1, 40, 0, 0, 9, [[some (.aload_n 0, 0, 0, 0), some (.iload_n 1, 0, 0, 0), some (.invokevirtual 78, 9, 2, 0), none, none, some (.astore 6, 0, 0, 0), none, some (.aload_n 0, 0, 0, 0), some (.iload_n 3, 0, 0, 0), some (.invokevirtual 78, 9, 2, 0), none, none, some (.astore 7, 0, 0, 0), none, some (.aload 6, 0, 0, 0), none],
  [some (.ifnull 8, 24, 0, 0), none, none, some (.aload 7, 0, 0, 0), none, some (.ifnonnull 5, 26, 0, 0), none, none, some (.iconst (-1), 0, 0, (-1)), some (.ireturn, 0, 0, 0), some (.iload 5, 0, 0, 0), none, some (.ifCond .ge 9, 37, 0, 0), none, none, some (.aload_n 0, 0, 0, 0)],
  [some (.iconst 5, 0, 0, 5), some (.invokevirtual 82, 10, 2, 0), none, none, some (.ireturn, 0, 0, 0), some (.aload 6, 0, 0, 0), none, some (.invokevirtual 90, 13, 1, 0), none, none, some (.ifCond .ne 11, 53, 0, 0), none, none, some (.aload 7, 0, 0, 0), none, some (.invokevirtual 90, 13, 1, 0)],
  [none, none, some (.ifCond .eq 9, 59, 0, 0), none, none, some (.aload_n 0, 0, 0, 0), some (.iconst 1, 0, 0, 1), some (.invokevirtual 82, 10, 2, 0), none, none, some (.ireturn, 0, 0, 0), some (.aload 6, 0, 0, 0), none, some (.iload_n 2, 0, 0, 0), some (.iload 5, 0, 0, 0), none],
  [some (.invokevirtual 94, 14, 3, 0), none, none, some (.ifCond .eq 15, 82, 0, 0), none, none, some (.aload 7, 0, 0, 0), none, some (.iload 4, 0, 0, 0), none, some (.iload 5, 0, 0, 0), none, some (.invokevirtual 94, 14, 3, 0), none, none, some (.ifCond .ne 9, 88, 0, 0)],
  [none, none, some (.aload_n 0, 0, 0, 0), some (.iconst 2, 0, 0, 2), some (.invokevirtual 82, 10, 2, 0), none, none, some (.ireturn, 0, 0, 0), some (.aload 6, 0, 0, 0), none, some (.getfield 98, 4, 0, 0), none, none, some (.iload_n 2, 0, 0, 0), some (.aload 7, 0, 0, 0), none],
  [some (.getfield 98, 4, 0, 0), none, none, some (.iload 4, 0, 0, 0), none, some (.iload 5, 0, 0, 0), none, none, none, none, some (.iconst 1, 0, 0, 1), some (.ireturn, 0, 0, 0), none, none, none, none]])
def xm18 : XM := (yX9_mean, cX9_mean, 6, (some .int), 1, 21, 0, 0, 9, [[some (.aload_n 0, 0, 0, 0), some (.iload_n 1, 0, 0, 0), some (.invokevirtual 78, 9, 2, 0), none, none, some (.astore_n 2, 0, 0, 0), some (.aload_n 2, 0, 0, 0), some (.ifnonnull 5, 12, 0, 0), none, none, some (.iconst (-1), 0, 0, (-1)), some (.ireturn, 0, 0, 0), some (.aload_n 2, 0, 0, 0), some (.invokevirtual 90, 13, 1, 0), none, none],
  [some (.ifCond .eq 9, 25, 0, 0), none, none, some (.aload_n 0, 0, 0, 0), some (.iconst 1, 0, 0, 1), some (.invokevirtual 82, 10, 2, 0), none, none, some (.ireturn, 0, 0, 0), some (.aload_n 2, 0, 0, 0), some (.getfield 104, 4, 1, 0), none, none, some (.ifCond .ne 9, 38, 0, 0), none, none],
  [some (.aload_n 0, 0, 0, 0), some (.iconst 4, 0, 0, 4), some (.invokevirtual 82, 10, 2, 0), none, none, some (.ireturn, 0, 0, 0), some (.lconst 0, 0, 0, 0), some (.lstore_n 3, 0, 0, 0), some (.iconst 0, 0, 0, 0), some (.istore 5, 0, 0, 0), none, some (.iload 5, 0, 0, 0), none, some (.aload_n 2, 0, 0, 0), some (.getfield 104, 4, 1, 0), none],
  [none, some (.if_icmp .ge 20, 69, 0, 0), none, none, some (.lload_n 3, 0, 0, 0), some (.aload_n 2, 0, 0, 0), some (.getfield 98, 4, 0, 0), none, none, some (.iload 5, 0, 0, 0), none, some (.iaload, 0, 0, 0), some (.i2l, 0, 0, 0), some (.ladd, 0, 0, 0), some (.lstore_n 3, 0, 0, 0), some (.iinc 5 1, 0, 0, 1)],
  [none, none, some (.goto (-23), 43, 0, 0), none, none, some (.aload_n 0, 0, 0, 0), some (.lload_n 3, 0, 0, 0), some (.aload_n 2, 0, 0, 0), some (.getfield 104, 4, 1, 0), none, none, some (.i2l, 0, 0, 0), some (.ldiv, 0, 0, 0), some (.l2i, 0, 0, 0), some (.invokevirtual 101, 15, 2, 0), none],
  [none, some (.ireturn, 0, 0, 0), none, none, none, none, none, none, none, none, none, none, none, none, none, none]])
def xm19 : XM := (yX9_text, cX9_text, 4, (some .int), 1, 23, 0, 0, 9, [[some (.aload_n 0, 0, 0, 0), some (.iload_n 1, 0, 0, 0), some (.invokevirtual 113, 20, 2, 0), none, none, some (.astore_n 3, 0, 0, 0), some (.aload_n 3, 0, 0, 0), some (.ifnull 9, 16, 0, 0), none, none, some (.iload_n 2, 0, 0, 0), some (.bipush 40, 0, 0, 40), none, some (.if_icmp .le 5, 18, 0, 0), none, none],
  [some (.iconst (-1), 0, 0, (-1)), some (.ireturn, 0, 0, 0), some (.iload_n 2, 0, 0, 0), some (.ifCond .ge 9, 28, 0, 0), none, none, some (.aload_n 0, 0, 0, 0), some (.iconst 5, 0, 0, 5), some (.invokevirtual 82, 10, 2, 0), none, none, some (.ireturn, 0, 0, 0), some (.aload_n 3, 0, 0, 0), some (.iload_n 2, 0, 0, 0), some (.bipush 32, 0, 0, 32), none],
  [some (.invokevirtual 86, 11, 3, 0), none, none, some (.iload_n 2, 0, 0, 0), some (.ireturn, 0, 0, 0), none, none, none, none, none, none, none, none, none, none, none]])
def xm20 : XM := (yX9_textAt, cX9_textAt, 2, (some (.object "IceBoats$Row")), 0, 0, 0, 0, 9, [[some (.iload_n 1, 0, 0, 0), some (.ifCond .lt 17, 18, 0, 0), none, none, some (.iload_n 1, 0, 0, 0), some (.iconst 4, 0, 0, 4), some (.if_icmp .ge 12, 18, 0, 0), none, none, some (.aload_n 0, 0, 0, 0), some (.getfield 15, 9, 1, 0), none, none, some (.iload_n 1, 0, 0, 0), some (.aaload, 0, 0, 0), some (.goto 4, 19, 0, 0)],
  [none, none, some (.aconst_null, 0, 0, 0), some (.areturn, 0, 0, 0), none, none, none, none, none, none, none, none, none, none, none, none]])
def xm21 : XM := (yX9_put, cX9_put, 6, (some .int), 1, 22, 0, 0, 9, [[some (.aload_n 0, 0, 0, 0), some (.iload_n 1, 0, 0, 0), some (.invokevirtual 113, 20, 2, 0), none, none, some (.astore 4, 0, 0, 0), none, some (.aload 4, 0, 0, 0), none, some (.ifnonnull 5, 14, 0, 0), none, none, some (.iconst (-1), 0, 0, (-1)), some (.ireturn, 0, 0, 0), some (.aload 4, 0, 0, 0), none],
  [some (.invokevirtual 90, 13, 1, 0), none, none, some (.ifCond .eq 9, 28, 0, 0), none, none, some (.aload_n 0, 0, 0, 0), some (.iconst 1, 0, 0, 1), some (.invokevirtual 82, 10, 2, 0), none, none, some (.ireturn, 0, 0, 0), some (.aload 4, 0, 0, 0), none, some (.iload_n 2, 0, 0, 0), some (.iconst 1, 0, 0, 1)],
  [some (.invokevirtual 94, 14, 3, 0), none, none, some (.ifCond .ne 9, 44, 0, 0), none, none, some (.aload_n 0, 0, 0, 0), some (.iconst 2, 0, 0, 2), some (.invokevirtual 82, 10, 2, 0), none, none, some (.ireturn, 0, 0, 0), some (.aload 4, 0, 0, 0), none, some (.getfield 98, 4, 0, 0), none],
  [none, some (.iload_n 2, 0, 0, 0), some (.iaload, 0, 0, 0), some (.istore 5, 0, 0, 0), none, some (.aload 4, 0, 0, 0), none, some (.getfield 98, 4, 0, 0), none, none, some (.iload_n 2, 0, 0, 0), some (.iload_n 3, 0, 0, 0), some (.i2b, 0, 0, 0), some (.iastore, 0, 0, 0), some (.iload 5, 0, 0, 0), none],
  [some (.sipush 1000, 0, 0, 1000), none, none, some (.iadd, 0, 0, 0), some (.ireturn, 0, 0, 0), none, none, none, none, none, none, none, none, none, none, none]])
def xm22 : XM := (yX9_rock, cX9_rock, 4, (some .int), 2, 43, 0, 0, 9, [[some (.iload_n 1, 0, 0, 0), some (.invokestatic 116, 23, 1, 0), none, none, some (.ifCond .ne 5, 9, 0, 0), none, none, some (.iconst (-1), 0, 0, (-1)), some (.ireturn, 0, 0, 0), some (.iload_n 2, 0, 0, 0), some (.ifCond .eq 25, 35, 0, 0), none, none, some (.iload_n 1, 0, 0, 0), some (.aload_n 0, 0, 0, 0), some (.getfield 21, 9, 2, 0)],
  [none, none, some (.getfield 120, 6, 7, 0), none, none, some (.if_icmp .eq 11, 32, 0, 0), none, none, some (.aload_n 0, 0, 0, 0), some (.iload_n 1, 0, 0, 0), some (.invokevirtual 123, 24, 2, 0), none, none, some (.ifCond .eq 6, 35, 0, 0), none, none],
  [some (.bipush (-4), 0, 0, (-4)), none, some (.ireturn, 0, 0, 0), some (.aload_n 0, 0, 0, 0), some (.getfield 21, 9, 2, 0), none, none, some (.iload_n 1, 0, 0, 0), some (.invokevirtual 126, 25, 2, 0), none, none, some (.ifCond .eq 7, 50, 0, 0), none, none, some (.iconst 1, 0, 0, 1), some (.goto 4, 51, 0, 0)],
  [none, none, some (.iconst 0, 0, 0, 0), some (.istore_n 3, 0, 0, 0), some (.aload_n 0, 0, 0, 0), some (.getfield 21, 9, 2, 0), none, none, some (.iload_n 1, 0, 0, 0), some (.iload_n 2, 0, 0, 0), some (.invokevirtual 129, 27, 3, 0), none, none, some (.iload_n 3, 0, 0, 0), some (.ireturn, 0, 0, 0), none]])
def xm23 : XM := (yX9_isCell, cX9_isCell, 1, (some .boolean), 0, 0, 0, 0, 9, [[some (.iload_n 0, 0, 0, 0), some (.ifCond .lt 13, 14, 0, 0), none, none, some (.iload_n 0, 0, 0, 0), some (.bipush 64, 0, 0, 64), none, some (.if_icmp .ge 7, 14, 0, 0), none, none, some (.iconst 1, 0, 0, 1), some (.goto 4, 15, 0, 0), none, none, some (.iconst 0, 0, 0, 0), some (.ireturn, 0, 0, 0)]])
def xm24 : XM := (yX9_boatLiesIn, cX9_boatLiesIn, 3, (some .boolean), 0, 0, 0, 0, 9, [[some (.iconst 0, 0, 0, 0), some (.istore_n 2, 0, 0, 0), some (.iload_n 2, 0, 0, 0), some (.bipush 6, 0, 0, 6), none, some (.if_icmp .ge 24, 29, 0, 0), none, none, some (.aload_n 0, 0, 0, 0), some (.getfield 27, 9, 3, 0), none, none, some (.iload_n 2, 0, 0, 0), some (.aaload, 0, 0, 0), some (.getfield 218, 0, 2, 0), none],
  [none, some (.iload_n 1, 0, 0, 0), some (.if_icmp .ne 5, 23, 0, 0), none, none, some (.iconst 1, 0, 0, 1), some (.ireturn, 0, 0, 0), some (.iinc 2 1, 0, 0, 1), none, none, some (.goto (-24), 2, 0, 0), none, none, some (.iconst 0, 0, 0, 0), some (.ireturn, 0, 0, 0), none]])
def xm25 : XM := (yX6_isRock, cX6_isRock, 2, (some .boolean), 1, 22, 0, 0, 6, [[some (.aload_n 0, 0, 0, 0), some (.getfield 37, 6, 6, 0), none, none, some (.iload_n 1, 0, 0, 0), some (.invokestatic 41, 26, 2, 0), none, none, some (.ireturn, 0, 0, 0), none, none, none, none, none, none, none]])
def xm26 : XM := (yX9_hasBit, cX9_hasBit, 3, (some .boolean), 0, 0, 0, 0, 9, [[some (.lload_n 0, 0, 0, 0), some (.iload_n 2, 0, 0, 0), some (.lushr, 0, 0, 0), some (.lconst 1, 0, 0, 1), some (.land, 0, 0, 0), some (.lconst 1, 0, 0, 1), some (.lcmp, 0, 0, 0), some (.ifCond .ne 7, 14, 0, 0), none, none, some (.iconst 1, 0, 0, 1), some (.goto 4, 15, 0, 0), none, none, some (.iconst 0, 0, 0, 0), some (.ireturn, 0, 0, 0)]])
def xm27 : XM := (yX6_becomeRock, cX6_becomeRock, 3, none, 0, 0, 0, 0, 6, [[some (.aload_n 0, 0, 0, 0), some (.iload_n 2, 0, 0, 0), some (.ifCond .eq 14, 16, 0, 0), none, none, some (.aload_n 0, 0, 0, 0), some (.getfield 37, 6, 6, 0), none, none, some (.lconst 1, 0, 0, 1), some (.iload_n 1, 0, 0, 0), some (.lshl, 0, 0, 0), some (.lor, 0, 0, 0), some (.goto 15, 28, 0, 0), none, none],
  [some (.aload_n 0, 0, 0, 0), some (.getfield 37, 6, 6, 0), none, none, some (.lconst 1, 0, 0, 1), some (.iload_n 1, 0, 0, 0), some (.lshl, 0, 0, 0), some (.ldc2_w 35, 0, 0, (-1)), none, none, some (.lxor, 0, 0, 0), some (.land, 0, 0, 0), some (.putfield 37, 6, 6, 0), none, none, some (.return_, 0, 0, 0)]])
def xm28 : XM := (yX9_cell, cX9_cell, 5, (some .int), 1, 22, 0, 0, 9, [[some (.iload_n 1, 0, 0, 0), some (.invokestatic 116, 23, 1, 0), none, none, some (.ifCond .eq 28, 32, 0, 0), none, none, some (.iload_n 2, 0, 0, 0), some (.invokestatic 133, 29, 1, 0), none, none, some (.ifCond .eq 21, 32, 0, 0), none, none, some (.iload_n 3, 0, 0, 0), some (.iconst 1, 0, 0, 1)],
  [some (.if_icmp .lt 16, 32, 0, 0), none, none, some (.iload_n 3, 0, 0, 0), some (.iconst 4, 0, 0, 4), some (.if_icmp .gt 11, 32, 0, 0), none, none, some (.iload 4, 0, 0, 0), none, some (.invokestatic 136, 30, 1, 0), none, none, some (.ifCond .ne 5, 34, 0, 0), none, none],
  [some (.iconst (-1), 0, 0, (-1)), some (.ireturn, 0, 0, 0), some (.aload_n 0, 0, 0, 0), some (.getfield 21, 9, 2, 0), none, none, some (.getfield 139, 6, 0, 0), none, none, some (.iload_n 1, 0, 0, 0), some (.iload_n 2, 0, 0, 0), some (.iastore, 0, 0, 0), some (.aload_n 0, 0, 0, 0), some (.getfield 21, 9, 2, 0), none, none],
  [some (.iload_n 1, 0, 0, 0), some (.iload_n 3, 0, 0, 0), some (.invokevirtual 142, 31, 3, 0), none, none, some (.aload_n 0, 0, 0, 0), some (.getfield 21, 9, 2, 0), none, none, some (.getfield 145, 6, 2, 0), none, none, some (.iload_n 1, 0, 0, 0), some (.iload 4, 0, 0, 0), none, some (.iastore, 0, 0, 0)],
  [some (.iconst 1, 0, 0, 1), some (.ireturn, 0, 0, 0), none, none, none, none, none, none, none, none, none, none, none, none, none, none]])
def xm29 : XM := (yX9_isWay, cX9_isWay, 1, (some .boolean), 0, 0, 0, 0, 9, [[some (.iload_n 0, 0, 0, 0), some (.ifCond .lt 12, 13, 0, 0), none, none, some (.iload_n 0, 0, 0, 0), some (.iconst 5, 0, 0, 5), some (.if_icmp .ge 7, 13, 0, 0), none, none, some (.iconst 1, 0, 0, 1), some (.goto 4, 14, 0, 0), none, none, some (.iconst 0, 0, 0, 0), some (.ireturn, 0, 0, 0), none]])
def xm30 : XM := (yX9_isIce, cX9_isIce, 1, (some .boolean), 0, 0, 0, 0, 9, [[some (.iload_n 0, 0, 0, 0), some (.ifCond .lt 13, 14, 0, 0), none, none, some (.iload_n 0, 0, 0, 0), some (.bipush 9, 0, 0, 9), none, some (.if_icmp .gt 7, 14, 0, 0), none, none, some (.iconst 1, 0, 0, 1), some (.goto 4, 15, 0, 0), none, none, some (.iconst 0, 0, 0, 0), some (.ireturn, 0, 0, 0)]])
def xm31 : XM := (yX6_becomeWarm, cX6_becomeWarm, 3, none, 0, 0, 0, 0, 6, [[some (.aload_n 0, 0, 0, 0), some (.getfield 24, 6, 4, 0), none, none, some (.aload_n 0, 0, 0, 0), some (.getfield 15, 6, 1, 0), none, none, some (.iload_n 1, 0, 0, 0), some (.iaload, 0, 0, 0), some (.dup2, 0, 0, 0), some (.laload, 0, 0, 0), some (.lconst 1, 0, 0, 1), some (.iload_n 1, 0, 0, 0), some (.lshl, 0, 0, 0), some (.ldc2_w 35, 0, 0, (-1))],
  [none, none, some (.lxor, 0, 0, 0), some (.land, 0, 0, 0), some (.lastore, 0, 0, 0), some (.aload_n 0, 0, 0, 0), some (.getfield 24, 6, 4, 0), none, none, some (.iload_n 2, 0, 0, 0), some (.dup2, 0, 0, 0), some (.laload, 0, 0, 0), some (.lconst 1, 0, 0, 1), some (.iload_n 1, 0, 0, 0), some (.lshl, 0, 0, 0), some (.lor, 0, 0, 0)],
  [some (.lastore, 0, 0, 0), some (.aload_n 0, 0, 0, 0), some (.getfield 15, 6, 1, 0), none, none, some (.iload_n 1, 0, 0, 0), some (.iload_n 2, 0, 0, 0), some (.iastore, 0, 0, 0), some (.return_, 0, 0, 0), none, none, none, none, none, none, none]])
def xm32 : XM := (yX9_sea, cX9_sea, 3, (some .int), 3, 65, 0, 0, 9, [[some (.iload_n 1, 0, 0, 0), some (.invokestatic 116, 23, 1, 0), none, none, some (.ifCond .eq 12, 16, 0, 0), none, none, some (.iload_n 2, 0, 0, 0), some (.ifCond .lt 8, 16, 0, 0), none, none, some (.iload_n 2, 0, 0, 0), some (.iconst 4, 0, 0, 4), some (.if_icmp .le 5, 18, 0, 0), none, none],
  [some (.iconst (-1), 0, 0, (-1)), some (.ireturn, 0, 0, 0), some (.aload_n 0, 0, 0, 0), some (.aload_n 0, 0, 0, 0), some (.getfield 21, 9, 2, 0), none, none, some (.iload_n 1, 0, 0, 0), some (.iload_n 2, 0, 0, 0), some (.invokevirtual 148, 33, 3, 0), none, none, some (.invokevirtual 101, 15, 2, 0), none, none, some (.ireturn, 0, 0, 0)]])
def xm33 : XM := (yX6_tellOf, cX6_tellOf, 3, (some .int), 2, 43, 0, 0, 6, [[some (.iload_n 2, 0, 0, 0), some (.tableswitch 66 0 3 #[31, 45, 52, 59], 0, 0, 0), none, none, none, none, none, none, none, none, none, none, none, none, none, none],
  [none, none, none, none, none, none, none, none, none, none, none, none, none, none, none, none],
  [some (.aload_n 0, 0, 0, 0), some (.iload_n 1, 0, 0, 0), some (.invokevirtual 45, 25, 2, 0), none, none, some (.ifCond .eq 7, 44, 0, 0), none, none, some (.iconst 1, 0, 0, 1), some (.goto 4, 45, 0, 0), none, none, some (.iconst 0, 0, 0, 0), some (.ireturn, 0, 0, 0), some (.aload_n 0, 0, 0, 0), some (.getfield 9, 6, 0, 0)],
  [none, none, some (.iload_n 1, 0, 0, 0), some (.iaload, 0, 0, 0), some (.ireturn, 0, 0, 0), some (.aload_n 0, 0, 0, 0), some (.getfield 15, 6, 1, 0), none, none, some (.iload_n 1, 0, 0, 0), some (.iaload, 0, 0, 0), some (.ireturn, 0, 0, 0), some (.aload_n 0, 0, 0, 0), some (.getfield 18, 6, 2, 0), none, none],
  [some (.iload_n 1, 0, 0, 0), some (.iaload, 0, 0, 0), some (.ireturn, 0, 0, 0), some (.aload_n 0, 0, 0, 0), some (.getfield 21, 6, 3, 0), none, none, some (.iload_n 1, 0, 0, 0), some (.iaload, 0, 0, 0), some (.ireturn, 0, 0, 0), none, none, none, none, none, none]])
def xm34 : XM := (yX9_chart, cX9_chart, 3, (some .int), 1, 20, 0, 0, 9, [[some (.iload_n 1, 0, 0, 0), some (.invokestatic 116, 23, 1, 0), none, none, some (.ifCond .eq 16, 20, 0, 0), none, none, some (.iload_n 2, 0, 0, 0), some (.bipush (-9), 0, 0, (-9)), none, some (.if_icmp .eq 12, 22, 0, 0), none, none, some (.iload_n 2, 0, 0, 0), some (.invokestatic 136, 30, 1, 0), none],
  [none, some (.ifCond .ne 5, 22, 0, 0), none, none, some (.iconst (-1), 0, 0, (-1)), some (.ireturn, 0, 0, 0), some (.aload_n 0, 0, 0, 0), some (.getfield 21, 9, 2, 0), none, none, some (.getfield 152, 6, 3, 0), none, none, some (.iload_n 1, 0, 0, 0), some (.iload_n 2, 0, 0, 0), some (.iastore, 0, 0, 0)],
  [some (.iconst 1, 0, 0, 1), some (.ireturn, 0, 0, 0), none, none, none, none, none, none, none, none, none, none, none, none, none, none]])
def xm35 : XM := (yX9_hole, cX9_hole, 3, (some .int), 2, 43, 0, 0, 9, [[some (.iload_n 1, 0, 0, 0), some (.invokestatic 116, 23, 1, 0), none, none, some (.ifCond .ne 5, 9, 0, 0), none, none, some (.iconst (-1), 0, 0, (-1)), some (.ireturn, 0, 0, 0), some (.aload_n 0, 0, 0, 0), some (.getfield 21, 9, 2, 0), none, none, some (.iload_n 1, 0, 0, 0), some (.invokevirtual 126, 25, 2, 0), none],
  [none, some (.ifCond .eq 6, 23, 0, 0), none, none, some (.bipush (-4), 0, 0, (-4)), none, some (.ireturn, 0, 0, 0), some (.aload_n 0, 0, 0, 0), some (.getfield 21, 9, 2, 0), none, none, some (.getfield 120, 6, 7, 0), none, none, some (.istore_n 2, 0, 0, 0), some (.aload_n 0, 0, 0, 0)],
  [some (.getfield 21, 9, 2, 0), none, none, some (.iload_n 1, 0, 0, 0), some (.putfield 120, 6, 7, 0), none, none, some (.iload_n 2, 0, 0, 0), some (.ireturn, 0, 0, 0), none, none, none, none, none, none, none]])
def xm36 : XM := (yX9_seed, cX9_seed, 2, (some .int), 0, 0, 0, 0, 9, [[some (.aload_n 0, 0, 0, 0), some (.iload_n 1, 0, 0, 0), some (.putfield 68, 9, 13, 0), none, none, some (.iconst 1, 0, 0, 1), some (.ireturn, 0, 0, 0), none, none, none, none, none, none, none, none, none]])
def xm37 : XM := (yX9_boat, cX9_boat, 6, (some .int), 2, 43, 0, 0, 9, [[some (.aload_n 0, 0, 0, 0), some (.iload_n 1, 0, 0, 0), some (.invokevirtual 155, 38, 2, 0), none, none, some (.astore 5, 0, 0, 0), none, some (.aload 5, 0, 0, 0), none, some (.ifnull 32, 41, 0, 0), none, none, some (.iload_n 2, 0, 0, 0), some (.ifCond .lt 28, 41, 0, 0), none, none],
  [some (.iload_n 2, 0, 0, 0), some (.iconst 3, 0, 0, 3), some (.if_icmp .gt 23, 41, 0, 0), none, none, some (.iload_n 3, 0, 0, 0), some (.invokestatic 116, 23, 1, 0), none, none, some (.ifCond .eq 16, 41, 0, 0), none, none, some (.iload 4, 0, 0, 0), none, some (.ifCond .lt 11, 41, 0, 0), none],
  [none, some (.iload 4, 0, 0, 0), none, some (.sipush 1000, 0, 0, 1000), none, none, some (.if_icmp .le 5, 43, 0, 0), none, none, some (.iconst (-1), 0, 0, (-1)), some (.ireturn, 0, 0, 0), some (.aload_n 0, 0, 0, 0), some (.getfield 21, 9, 2, 0), none, none, some (.iload_n 3, 0, 0, 0)],
  [some (.invokevirtual 126, 25, 2, 0), none, none, some (.ifCond .eq 6, 57, 0, 0), none, none, some (.bipush (-4), 0, 0, (-4)), none, some (.ireturn, 0, 0, 0), some (.aload 5, 0, 0, 0), none, some (.iload_n 2, 0, 0, 0), some (.iload_n 3, 0, 0, 0), some (.iload 4, 0, 0, 0), none, some (.aload_n 0, 0, 0, 0)],
  [some (.getfield 159, 9, 12, 0), none, none, some (.invokevirtual 162, 40, 5, 0), none, none, some (.iconst 1, 0, 0, 1), some (.ireturn, 0, 0, 0), none, none, none, none, none, none, none, none]])
def xm38 : XM := (yX9_boatAt, cX9_boatAt, 2, (some (.object "IceBoats$Boat")), 1, 20, 0, 0, 9, [[some (.iload_n 1, 0, 0, 0), some (.invokestatic 305, 39, 1, 0), none, none, some (.ifCond .eq 12, 16, 0, 0), none, none, some (.aload_n 0, 0, 0, 0), some (.getfield 27, 9, 3, 0), none, none, some (.iload_n 1, 0, 0, 0), some (.aaload, 0, 0, 0), some (.goto 4, 17, 0, 0), none, none],
  [some (.aconst_null, 0, 0, 0), some (.areturn, 0, 0, 0), none, none, none, none, none, none, none, none, none, none, none, none, none, none]])
def xm39 : XM := (yX9_isBoat, cX9_isBoat, 1, (some .boolean), 0, 0, 0, 0, 9, [[some (.iload_n 0, 0, 0, 0), some (.ifCond .lt 13, 14, 0, 0), none, none, some (.iload_n 0, 0, 0, 0), some (.bipush 6, 0, 0, 6), none, some (.if_icmp .ge 7, 14, 0, 0), none, none, some (.iconst 1, 0, 0, 1), some (.goto 4, 15, 0, 0), none, none, some (.iconst 0, 0, 0, 0), some (.ireturn, 0, 0, 0)]])
def xm40 : XM := (yX0_letDown, cX0_letDown, 5, none, 0, 0, 0, 0, 0, [[some (.aload_n 0, 0, 0, 0), some (.iload_n 1, 0, 0, 0), some (.putfield 29, 0, 1, 0), none, none, some (.aload_n 0, 0, 0, 0), some (.iload_n 2, 0, 0, 0), some (.putfield 32, 0, 2, 0), none, none, some (.aload_n 0, 0, 0, 0), some (.iload_n 3, 0, 0, 0), some (.putfield 15, 0, 3, 0), none, none, some (.aload_n 0, 0, 0, 0)],
  [some (.lconst 1, 0, 0, 1), some (.iload_n 2, 0, 0, 0), some (.lshl, 0, 0, 0), some (.putfield 19, 0, 4, 0), none, none, some (.aload_n 0, 0, 0, 0), some (.bipush (-9), 0, 0, (-9)), none, some (.putfield 23, 0, 5, 0), none, none, some (.aload_n 0, 0, 0, 0), some (.iload 4, 0, 0, 0), none, some (.putfield 35, 0, 6, 0)],
  [none, none, some (.aload_n 0, 0, 0, 0), some (.iload 4, 0, 0, 0), none, some (.putfield 38, 0, 8, 0), none, none, some (.return_, 0, 0, 0), none, none, none, none, none, none, none]])
def xm41 : XM := (yX9_told, cX9_told, 4, (some .int), 3, 68, 0, 0, 9, [[some (.aload_n 0, 0, 0, 0), some (.iload_n 1, 0, 0, 0), some (.invokevirtual 155, 38, 2, 0), none, none, some (.astore_n 3, 0, 0, 0), some (.aload_n 3, 0, 0, 0), some (.ifnull 12, 19, 0, 0), none, none, some (.iload_n 2, 0, 0, 0), some (.ifCond .lt 8, 19, 0, 0), none, none, some (.iload_n 2, 0, 0, 0), some (.iconst 5, 0, 0, 5)],
  [some (.if_icmp .le 5, 21, 0, 0), none, none, some (.iconst (-1), 0, 0, (-1)), some (.ireturn, 0, 0, 0), some (.aload_n 0, 0, 0, 0), some (.aload_n 0, 0, 0, 0), some (.iload_n 1, 0, 0, 0), some (.aload_n 3, 0, 0, 0), some (.iload_n 2, 0, 0, 0), some (.invokevirtual 166, 42, 4, 0), none, none, some (.invokevirtual 101, 15, 2, 0), none, none],
  [some (.ireturn, 0, 0, 0), none, none, none, none, none, none, none, none, none, none, none, none, none, none, none]])
def xm42 : XM := (yX9_tellOfBoat, cX9_tellOfBoat, 4, (some .int), 2, 45, 0, 0, 9, [[some (.iload_n 3, 0, 0, 0), some (.tableswitch 64 0 4 #[35, 40, 45, 50, 58], 0, 0, 0), none, none, none, none, none, none, none, none, none, none, none, none, none, none],
  [none, none, none, none, none, none, none, none, none, none, none, none, none, none, none, none],
  [none, none, none, none, some (.aload_n 2, 0, 0, 0), some (.getfield 170, 0, 1, 0), none, none, some (.ireturn, 0, 0, 0), some (.aload_n 2, 0, 0, 0), some (.getfield 218, 0, 2, 0), none, none, some (.ireturn, 0, 0, 0), some (.aload_n 2, 0, 0, 0), some (.getfield 185, 0, 3, 0)],
  [none, none, some (.ireturn, 0, 0, 0), some (.aload_n 2, 0, 0, 0), some (.getfield 191, 0, 4, 0), none, none, some (.invokestatic 246, 43, 1, 0), none, none, some (.ireturn, 0, 0, 0), some (.aload_n 0, 0, 0, 0), some (.iload_n 1, 0, 0, 0), some (.invokevirtual 473, 44, 2, 0), none, none],
  [some (.ireturn, 0, 0, 0), some (.aload_n 2, 0, 0, 0), some (.getfield 476, 0, 6, 0), none, none, some (.ireturn, 0, 0, 0), none, none, none, none, none, none, none, none, none, none]])
def xm43 : XM := ((⟨"java/lang/Long", "bitCount", "(J)I"⟩ : MethodName), prog_14_method_50_code, 2, (some .int), 0, 0, 0, 0, 14, [[some (.lload_n 0, 0, 0, 0), some (.lload_n 0, 0, 0, 0), some (.iconst 1, 0, 0, 1), some (.lushr, 0, 0, 0), some (.ldc2_w 314, 0, 0, 6148914691236517205), none, none, some (.land, 0, 0, 0), some (.lsub, 0, 0, 0), some (.lstore_n 0, 0, 0, 0), some (.lload_n 0, 0, 0, 0), some (.ldc2_w 316, 0, 0, 3689348814741910323), none, none, some (.land, 0, 0, 0), some (.lload_n 0, 0, 0, 0)],
  [some (.iconst 2, 0, 0, 2), some (.lushr, 0, 0, 0), some (.ldc2_w 316, 0, 0, 3689348814741910323), none, none, some (.land, 0, 0, 0), some (.ladd, 0, 0, 0), some (.lstore_n 0, 0, 0, 0), some (.lload_n 0, 0, 0, 0), some (.lload_n 0, 0, 0, 0), some (.iconst 4, 0, 0, 4), some (.lushr, 0, 0, 0), some (.ladd, 0, 0, 0), some (.ldc2_w 318, 0, 0, 1085102592571150095), none, none],
  [some (.land, 0, 0, 0), some (.lstore_n 0, 0, 0, 0), some (.lload_n 0, 0, 0, 0), some (.lload_n 0, 0, 0, 0), some (.bipush 8, 0, 0, 8), none, some (.lushr, 0, 0, 0), some (.ladd, 0, 0, 0), some (.lstore_n 0, 0, 0, 0), some (.lload_n 0, 0, 0, 0), some (.lload_n 0, 0, 0, 0), some (.bipush 16, 0, 0, 16), none, some (.lushr, 0, 0, 0), some (.ladd, 0, 0, 0), some (.lstore_n 0, 0, 0, 0)],
  [some (.lload_n 0, 0, 0, 0), some (.lload_n 0, 0, 0, 0), some (.bipush 32, 0, 0, 32), none, some (.lushr, 0, 0, 0), some (.ladd, 0, 0, 0), some (.lstore_n 0, 0, 0, 0), some (.lload_n 0, 0, 0, 0), some (.l2i, 0, 0, 0), some (.bipush 127, 0, 0, 127), none, some (.iand, 0, 0, 0), some (.ireturn, 0, 0, 0), none, none, none]])
def xm44 : XM := (yX9_looksHeldBy, cX9_looksHeldBy, 4, (some .int), 1, 22, 0, 0, 9, [[some (.iconst 0, 0, 0, 0), some (.istore_n 2, 0, 0, 0), some (.iconst 0, 0, 0, 0), some (.istore_n 3, 0, 0, 0), some (.iload_n 3, 0, 0, 0), some (.aload_n 0, 0, 0, 0), some (.getfield 215, 9, 11, 0), none, none, some (.if_icmp .ge 34, 43, 0, 0), none, none, some (.iload_n 2, 0, 0, 0), some (.aload_n 0, 0, 0, 0), some (.getfield 39, 9, 5, 0), none],
  [none, some (.iload_n 3, 0, 0, 0), some (.aaload, 0, 0, 0), some (.getfield 367, 2, 3, 0), none, none, some (.i2l, 0, 0, 0), some (.iload_n 1, 0, 0, 0), some (.invokestatic 325, 26, 2, 0), none, none, some (.ifCond .eq 7, 34, 0, 0), none, none, some (.iconst 1, 0, 0, 1), some (.goto 4, 35, 0, 0)],
  [none, none, some (.iconst 0, 0, 0, 0), some (.iadd, 0, 0, 0), some (.istore_n 2, 0, 0, 0), some (.iinc 3 1, 0, 0, 1), none, none, some (.goto (-36), 4, 0, 0), none, none, some (.iload_n 2, 0, 0, 0), some (.ireturn, 0, 0, 0), none, none, none]])
def xm45 : XM := (yX9_mark, cX9_mark, 4, (some .int), 2, 41, 0, 0, 9, [[some (.aload_n 0, 0, 0, 0), some (.iload_n 1, 0, 0, 0), some (.invokevirtual 155, 38, 2, 0), none, none, some (.astore_n 3, 0, 0, 0), some (.aload_n 3, 0, 0, 0), some (.ifnull 14, 21, 0, 0), none, none, some (.iload_n 2, 0, 0, 0), some (.iconst 1, 0, 0, 1), some (.if_icmp .lt 9, 21, 0, 0), none, none, some (.iload_n 2, 0, 0, 0)],
  [some (.bipush 6, 0, 0, 6), none, some (.if_icmp .le 5, 23, 0, 0), none, none, some (.iconst (-1), 0, 0, (-1)), some (.ireturn, 0, 0, 0), some (.aload_n 3, 0, 0, 0), some (.getfield 170, 0, 1, 0), none, none, some (.iload_n 2, 0, 0, 0), some (.if_icmp .eq 21, 49, 0, 0), none, none, some (.getstatic 173, 0, 0, 0)],
  [none, none, some (.aload_n 3, 0, 0, 0), some (.getfield 170, 0, 1, 0), none, none, some (.iaload, 0, 0, 0), some (.iload_n 2, 0, 0, 0), some (.if_icmp .eq 9, 49, 0, 0), none, none, some (.aload_n 0, 0, 0, 0), some (.iconst 3, 0, 0, 3), some (.invokevirtual 82, 10, 2, 0), none, none],
  [some (.ireturn, 0, 0, 0), some (.iload_n 2, 0, 0, 0), some (.tableswitch 59 1 6 #[38, 43, 59, 59, 48, 54], 0, 0, 0), none, none, none, none, none, none, none, none, none, none, none, none, none],
  [none, none, none, none, none, none, none, none, none, none, none, none, none, none, none, none],
  [none, none, none, none, none, none, none, none, some (.aload_n 3, 0, 0, 0), some (.getfield 176, 0, 9, 0), none, none, some (.ireturn, 0, 0, 0), some (.aload_n 3, 0, 0, 0), some (.getfield 179, 0, 10, 0), none],
  [none, some (.ireturn, 0, 0, 0), some (.aload_n 0, 0, 0, 0), some (.iload_n 1, 0, 0, 0), some (.invokevirtual 182, 46, 2, 0), none, none, some (.ireturn, 0, 0, 0), some (.aload_n 3, 0, 0, 0), some (.getfield 185, 0, 3, 0), none, none, some (.ireturn, 0, 0, 0), some (.aload_n 3, 0, 0, 0), some (.getfield 188, 0, 8, 0), none],
  [none, some (.ireturn, 0, 0, 0), none, none, none, none, none, none, none, none, none, none, none, none, none, none]])
def xm46 : XM := (yX9_looksOnlyHeldBy, cX9_looksOnlyHeldBy, 4, (some .int), 0, 0, 0, 0, 9, [[some (.iconst 0, 0, 0, 0), some (.istore_n 2, 0, 0, 0), some (.iconst 0, 0, 0, 0), some (.istore_n 3, 0, 0, 0), some (.iload_n 3, 0, 0, 0), some (.aload_n 0, 0, 0, 0), some (.getfield 215, 9, 11, 0), none, none, some (.if_icmp .ge 32, 41, 0, 0), none, none, some (.iload_n 2, 0, 0, 0), some (.aload_n 0, 0, 0, 0), some (.getfield 39, 9, 5, 0), none],
  [none, some (.iload_n 3, 0, 0, 0), some (.aaload, 0, 0, 0), some (.getfield 367, 2, 3, 0), none, none, some (.iconst 1, 0, 0, 1), some (.iload_n 1, 0, 0, 0), some (.ishl, 0, 0, 0), some (.if_icmp .ne 7, 32, 0, 0), none, none, some (.iconst 1, 0, 0, 1), some (.goto 4, 33, 0, 0), none, none],
  [some (.iconst 0, 0, 0, 0), some (.iadd, 0, 0, 0), some (.istore_n 2, 0, 0, 0), some (.iinc 3 1, 0, 0, 1), none, none, some (.goto (-34), 4, 0, 0), none, none, some (.iload_n 2, 0, 0, 0), some (.ireturn, 0, 0, 0), none, none, none, none, none]])
def xm47 : XM := (yX9_could, cX9_could, 3, (some .int), 2, 43, 0, 0, 9, [[some (.aload_n 0, 0, 0, 0), some (.iload_n 1, 0, 0, 0), some (.invokevirtual 155, 38, 2, 0), none, none, some (.astore_n 2, 0, 0, 0), some (.aload_n 2, 0, 0, 0), some (.ifnonnull 5, 12, 0, 0), none, none, some (.iconst (-1), 0, 0, (-1)), some (.ireturn, 0, 0, 0), some (.aload_n 0, 0, 0, 0), some (.aload_n 2, 0, 0, 0), some (.getfield 191, 0, 4, 0), none],
  [none, some (.invokevirtual 194, 48, 2, 0), none, none, some (.ireturn, 0, 0, 0), none, none, none, none, none, none, none, none, none, none, none]])
def xm48 : XM := (yX9_tellSet, cX9_tellSet, 3, (some .int), 1, 21, 0, 0, 9, [[some (.aload_n 0, 0, 0, 0), some (.lload_n 1, 0, 0, 0), some (.putfield 428, 9, 16, 0), none, none, some (.lload_n 1, 0, 0, 0), some (.invokestatic 246, 43, 1, 0), none, none, some (.ireturn, 0, 0, 0), none, none, none, none, none, none]])
def xm49 : XM := (yX9_go, cX9_go, 4, (some .int), 2, 41, 0, 0, 9, [[some (.aload_n 0, 0, 0, 0), some (.iload_n 1, 0, 0, 0), some (.invokevirtual 155, 38, 2, 0), none, none, some (.astore_n 3, 0, 0, 0), some (.aload_n 3, 0, 0, 0), some (.ifnull 10, 17, 0, 0), none, none, some (.iload_n 2, 0, 0, 0), some (.invokestatic 133, 29, 1, 0), none, none, some (.ifCond .ne 5, 19, 0, 0), none],
  [none, some (.iconst (-1), 0, 0, (-1)), some (.ireturn, 0, 0, 0), some (.aload_n 3, 0, 0, 0), some (.invokevirtual 198, 50, 1, 0), none, none, some (.ifCond .ne 6, 29, 0, 0), none, none, some (.bipush (-4), 0, 0, (-4)), none, some (.ireturn, 0, 0, 0), some (.aload_n 3, 0, 0, 0), some (.iload_n 2, 0, 0, 0), some (.putfield 201, 0, 5, 0)],
  [none, none, some (.iconst 1, 0, 0, 1), some (.ireturn, 0, 0, 0), none, none, none, none, none, none, none, none, none, none, none, none]])
def xm50 : XM := (yX0_isAble, cX0_isAble, 1, (some .boolean), 0, 0, 0, 0, 0, [[some (.aload_n 0, 0, 0, 0), some (.getfield 29, 0, 1, 0), none, none, some (.iconst 3, 0, 0, 3), some (.if_icmp .gt 7, 12, 0, 0), none, none, some (.iconst 1, 0, 0, 1), some (.goto 4, 13, 0, 0), none, none, some (.iconst 0, 0, 0, 0), some (.ireturn, 0, 0, 0), none, none]])
def xm51 : XM := (yX9_tick, cX9_tick, 3, (some .int), 6, 138, 0, 0, 9, [[some (.aload_n 0, 0, 0, 0), some (.getfield 159, 9, 12, 0), none, none, some (.sipush 999, 0, 0, 999), none, none, some (.if_icmp .lt 6, 13, 0, 0), none, none, some (.bipush (-4), 0, 0, (-4)), none, some (.ireturn, 0, 0, 0), some (.aload_n 0, 0, 0, 0), some (.dup, 0, 0, 0), some (.getfield 159, 9, 12, 0)],
  [none, none, some (.iconst 1, 0, 0, 1), some (.iadd, 0, 0, 0), some (.putfield 159, 9, 12, 0), none, none, some (.iconst 0, 0, 0, 0), some (.istore_n 1, 0, 0, 0), some (.iload_n 1, 0, 0, 0), some (.bipush 6, 0, 0, 6), none, some (.if_icmp .ge 31, 59, 0, 0), none, none, some (.aload_n 0, 0, 0, 0)],
  [some (.getfield 27, 9, 3, 0), none, none, some (.iload_n 1, 0, 0, 0), some (.aaload, 0, 0, 0), some (.invokevirtual 198, 50, 1, 0), none, none, some (.ifCond .eq 13, 53, 0, 0), none, none, some (.aload_n 0, 0, 0, 0), some (.aload_n 0, 0, 0, 0), some (.getfield 27, 9, 3, 0), none, none],
  [some (.iload_n 1, 0, 0, 0), some (.aaload, 0, 0, 0), some (.invokevirtual 204, 52, 2, 0), none, none, some (.iinc 1 1, 0, 0, 1), none, none, some (.goto (-31), 25, 0, 0), none, none, some (.iconst 0, 0, 0, 0), some (.istore_n 1, 0, 0, 0), some (.iconst 0, 0, 0, 0), some (.istore_n 2, 0, 0, 0), some (.iload_n 2, 0, 0, 0)],
  [some (.bipush 6, 0, 0, 6), none, some (.if_icmp .ge 17, 83, 0, 0), none, none, some (.iload_n 1, 0, 0, 0), some (.aload_n 0, 0, 0, 0), some (.iload_n 2, 0, 0, 0), some (.invokevirtual 208, 57, 2, 0), none, none, some (.iadd, 0, 0, 0), some (.istore_n 1, 0, 0, 0), some (.iinc 2 1, 0, 0, 1), none, none],
  [some (.goto (-17), 63, 0, 0), none, none, some (.iconst 0, 0, 0, 0), some (.istore_n 2, 0, 0, 0), some (.iload_n 2, 0, 0, 0), some (.bipush 6, 0, 0, 6), none, some (.if_icmp .ge 22, 110, 0, 0), none, none, some (.aload_n 0, 0, 0, 0), some (.getfield 27, 9, 3, 0), none, none, some (.iload_n 2, 0, 0, 0)],
  [some (.aaload, 0, 0, 0), some (.aload_n 0, 0, 0, 0), some (.getfield 159, 9, 12, 0), none, none, some (.invokevirtual 211, 71, 2, 0), none, none, some (.iinc 2 1, 0, 0, 1), none, none, some (.goto (-22), 85, 0, 0), none, none, some (.iload_n 1, 0, 0, 0), some (.ireturn, 0, 0, 0)]])
def xm52 : XM := (yX9_moveBoat, cX9_moveBoat, 3, none, 5, 115, 0, 0, 9, [[some (.aload_n 1, 0, 0, 0), some (.getfield 201, 0, 5, 0), none, none, some (.bipush (-9), 0, 0, (-9)), none, some (.if_icmp .ne 7, 13, 0, 0), none, none, some (.iconst 0, 0, 0, 0), some (.goto 7, 17, 0, 0), none, none, some (.aload_n 1, 0, 0, 0), some (.getfield 201, 0, 5, 0), none],
  [none, some (.istore_n 2, 0, 0, 0), some (.aload_n 1, 0, 0, 0), some (.bipush (-9), 0, 0, (-9)), none, some (.putfield 201, 0, 5, 0), none, none, some (.aload_n 1, 0, 0, 0), some (.getfield 170, 0, 1, 0), none, none, some (.iconst 3, 0, 0, 3), some (.if_icmp .ne 4, 33, 0, 0), none, none],
  [some (.return_, 0, 0, 0), some (.iload_n 2, 0, 0, 0), some (.ifCond .eq 26, 60, 0, 0), none, none, some (.aload_n 1, 0, 0, 0), some (.getfield 185, 0, 3, 0), none, none, some (.iconst 2, 0, 0, 2), some (.if_icmp .ge 8, 50, 0, 0), none, none, some (.iconst 0, 0, 0, 0), some (.istore_n 2, 0, 0, 0), some (.goto 13, 60, 0, 0)],
  [none, none, some (.aload_n 1, 0, 0, 0), some (.dup, 0, 0, 0), some (.getfield 185, 0, 3, 0), none, none, some (.iconst 2, 0, 0, 2), some (.isub, 0, 0, 0), some (.putfield 185, 0, 3, 0), none, none, some (.aload_n 1, 0, 0, 0), some (.aload_n 0, 0, 0, 0), some (.getfield 21, 9, 2, 0), none],
  [none, some (.aload_n 1, 0, 0, 0), some (.getfield 218, 0, 2, 0), none, none, some (.iload_n 2, 0, 0, 0), some (.invokevirtual 479, 53, 3, 0), none, none, some (.putfield 218, 0, 2, 0), none, none, some (.aload_n 0, 0, 0, 0), some (.invokevirtual 482, 54, 1, 0), none, none],
  [some (.ifCond .eq 18, 98, 0, 0), none, none, some (.aload_n 1, 0, 0, 0), some (.aload_n 0, 0, 0, 0), some (.getfield 21, 9, 2, 0), none, none, some (.aload_n 1, 0, 0, 0), some (.getfield 218, 0, 2, 0), none, none, some (.invokevirtual 485, 55, 2, 0), none, none, some (.putfield 218, 0, 2, 0)],
  [none, none, some (.aload_n 1, 0, 0, 0), some (.aload_n 0, 0, 0, 0), some (.getfield 21, 9, 2, 0), none, none, some (.aload_n 1, 0, 0, 0), some (.getfield 191, 0, 4, 0), none, none, some (.iload_n 2, 0, 0, 0), some (.invokevirtual 488, 56, 3, 0), none, none, some (.putfield 191, 0, 4, 0)],
  [none, none, some (.return_, 0, 0, 0), none, none, none, none, none, none, none, none, none, none, none, none, none]])
def xm53 : XM := (yX6_leadsTo, cX6_leadsTo, 5, (some .int), 2, 43, 0, 0, 6, [[some (.iload_n 1, 0, 0, 0), some (.bipush 8, 0, 0, 8), none, some (.irem, 0, 0, 0), some (.getstatic 49, 1, 0, 0), none, none, some (.iload_n 2, 0, 0, 0), some (.iaload, 0, 0, 0), some (.iadd, 0, 0, 0), some (.istore_n 3, 0, 0, 0), some (.iload_n 1, 0, 0, 0), some (.bipush 8, 0, 0, 8), none, some (.idiv, 0, 0, 0), some (.getstatic 52, 2, 0, 0)],
  [none, none, some (.iload_n 2, 0, 0, 0), some (.iaload, 0, 0, 0), some (.iadd, 0, 0, 0), some (.istore 4, 0, 0, 0), none, some (.iload_n 3, 0, 0, 0), some (.ifCond .lt 35, 59, 0, 0), none, none, some (.iload_n 3, 0, 0, 0), some (.bipush 8, 0, 0, 8), none, some (.if_icmp .ge 29, 59, 0, 0), none],
  [none, some (.iload 4, 0, 0, 0), none, some (.ifCond .lt 24, 59, 0, 0), none, none, some (.iload 4, 0, 0, 0), none, some (.bipush 8, 0, 0, 8), none, some (.if_icmp .ge 17, 59, 0, 0), none, none, some (.aload_n 0, 0, 0, 0), some (.bipush 8, 0, 0, 8), none],
  [some (.iload 4, 0, 0, 0), none, some (.imul, 0, 0, 0), some (.iload_n 3, 0, 0, 0), some (.iadd, 0, 0, 0), some (.invokevirtual 45, 25, 2, 0), none, none, some (.ifCond .eq 5, 61, 0, 0), none, none, some (.iload_n 1, 0, 0, 0), some (.ireturn, 0, 0, 0), some (.bipush 8, 0, 0, 8), none, some (.iload 4, 0, 0, 0)],
  [none, some (.imul, 0, 0, 0), some (.iload_n 3, 0, 0, 0), some (.iadd, 0, 0, 0), some (.ireturn, 0, 0, 0), none, none, none, none, none, none, none, none, none, none, none]])
def xm54 : XM := (yX9_lotCarries, cX9_lotCarries, 1, (some .boolean), 0, 0, 0, 0, 9, [[some (.aload_n 0, 0, 0, 0), some (.aload_n 0, 0, 0, 0), some (.getfield 68, 9, 13, 0), none, none, some (.ldc_w 492, 0, 0, 1103515245), none, none, some (.imul, 0, 0, 0), some (.sipush 12345, 0, 0, 12345), none, none, some (.iadd, 0, 0, 0), some (.putfield 68, 9, 13, 0), none, none],
  [some (.aload_n 0, 0, 0, 0), some (.getfield 68, 9, 13, 0), none, none, some (.bipush 16, 0, 0, 16), none, some (.iushr, 0, 0, 0), some (.sipush 32767, 0, 0, 32767), none, none, some (.iand, 0, 0, 0), some (.iconst 4, 0, 0, 4), some (.irem, 0, 0, 0), some (.ifCond .eq 7, 36, 0, 0), none, none],
  [some (.iconst 1, 0, 0, 1), some (.goto 4, 37, 0, 0), none, none, some (.iconst 0, 0, 0, 0), some (.ireturn, 0, 0, 0), none, none, none, none, none, none, none, none, none, none]])
def xm55 : XM := (yX6_carriedFrom, cX6_carriedFrom, 2, (some .int), 3, 67, 0, 0, 6, [[some (.aload_n 0, 0, 0, 0), some (.iload_n 1, 0, 0, 0), some (.aload_n 0, 0, 0, 0), some (.getfield 9, 6, 0, 0), none, none, some (.iload_n 1, 0, 0, 0), some (.iaload, 0, 0, 0), some (.invokevirtual 55, 53, 3, 0), none, none, some (.ireturn, 0, 0, 0), none, none, none, none]])
def xm56 : XM := (yX6_couldBehind, cX6_couldBehind, 8, (some .long), 4, 88, 0, 0, 6, [[some (.lconst 0, 0, 0, 0), some (.lstore 4, 0, 0, 0), none, some (.iconst 0, 0, 0, 0), some (.istore 6, 0, 0, 0), none, some (.iload 6, 0, 0, 0), none, some (.bipush 64, 0, 0, 64), none, some (.if_icmp .ge 45, 55, 0, 0), none, none, some (.lload_n 1, 0, 0, 0), some (.iload 6, 0, 0, 0), none],
  [some (.invokestatic 41, 26, 2, 0), none, none, some (.ifCond .eq 30, 49, 0, 0), none, none, some (.aload_n 0, 0, 0, 0), some (.iload 6, 0, 0, 0), none, some (.iload_n 3, 0, 0, 0), some (.invokevirtual 55, 53, 3, 0), none, none, some (.istore 7, 0, 0, 0), none, some (.lload 4, 0, 0, 0)],
  [none, some (.lconst 1, 0, 0, 1), some (.iload 7, 0, 0, 0), none, some (.lshl, 0, 0, 0), some (.lconst 1, 0, 0, 1), some (.aload_n 0, 0, 0, 0), some (.iload 7, 0, 0, 0), none, some (.invokevirtual 59, 55, 2, 0), none, none, some (.lshl, 0, 0, 0), some (.lor, 0, 0, 0), some (.lor, 0, 0, 0), some (.lstore 4, 0, 0, 0)],
  [none, some (.iinc 6 1, 0, 0, 1), none, none, some (.goto (-46), 6, 0, 0), none, none, some (.lload 4, 0, 0, 0), none, some (.lreturn, 0, 0, 0), none, none, none, none, none, none]])
def xm57 : XM := (yX9_hearWhatComes, cX9_hearWhatComes, 5, (some .int), 5, 114, 0, 0, 9, [[some (.iconst 0, 0, 0, 0), some (.istore_n 2, 0, 0, 0), some (.aconst_null, 0, 0, 0), some (.astore_n 3, 0, 0, 0), some (.iconst 0, 0, 0, 0), some (.istore 4, 0, 0, 0), none, some (.iload 4, 0, 0, 0), none, some (.aload_n 0, 0, 0, 0), some (.getfield 267, 9, 10, 0), none, none, some (.if_icmp .ge 38, 51, 0, 0), none, none],
  [some (.aload_n 0, 0, 0, 0), some (.getfield 33, 9, 4, 0), none, none, some (.iload 4, 0, 0, 0), none, some (.aaload, 0, 0, 0), some (.iload_n 1, 0, 0, 0), some (.aload_n 0, 0, 0, 0), some (.getfield 159, 9, 12, 0), none, none, some (.invokevirtual 493, 58, 3, 0), none, none, some (.ifCond .eq 14, 45, 0, 0)],
  [none, none, some (.iinc 2 1, 0, 0, 1), none, none, some (.aload_n 0, 0, 0, 0), some (.getfield 33, 9, 4, 0), none, none, some (.iload 4, 0, 0, 0), none, some (.aaload, 0, 0, 0), some (.astore_n 3, 0, 0, 0), some (.iinc 4 1, 0, 0, 1), none, none],
  [some (.goto (-41), 7, 0, 0), none, none, some (.aload_n 3, 0, 0, 0), some (.ifnonnull 5, 57, 0, 0), none, none, some (.iconst 0, 0, 0, 0), some (.ireturn, 0, 0, 0), some (.iload_n 2, 0, 0, 0), some (.iconst 1, 0, 0, 1), some (.if_icmp .le 10, 69, 0, 0), none, none, some (.aload_n 0, 0, 0, 0), some (.iload_n 1, 0, 0, 0)],
  [some (.invokevirtual 496, 59, 2, 0), none, none, some (.iconst 0, 0, 0, 0), some (.ireturn, 0, 0, 0), some (.aload_n 0, 0, 0, 0), some (.getfield 27, 9, 3, 0), none, none, some (.iload_n 1, 0, 0, 0), some (.aaload, 0, 0, 0), some (.invokevirtual 198, 50, 1, 0), none, none, some (.ifCond .ne 13, 91, 0, 0), none],
  [none, some (.aload_n 3, 0, 0, 0), some (.getfield 308, 8, 6, 0), none, none, some (.iload_n 1, 0, 0, 0), some (.bipush (-12), 0, 0, (-12)), none, some (.iastore, 0, 0, 0), some (.iconst 0, 0, 0, 0), some (.ireturn, 0, 0, 0), some (.aload_n 3, 0, 0, 0), some (.getfield 308, 8, 6, 0), none, none, some (.iload_n 1, 0, 0, 0)],
  [some (.aload_n 0, 0, 0, 0), some (.getfield 159, 9, 12, 0), none, none, some (.iastore, 0, 0, 0), some (.aload_n 0, 0, 0, 0), some (.getfield 27, 9, 3, 0), none, none, some (.iload_n 1, 0, 0, 0), some (.aaload, 0, 0, 0), some (.aload_n 0, 0, 0, 0), some (.getfield 159, 9, 12, 0), none, none, some (.putfield 476, 0, 6, 0)],
  [none, none, some (.aload_n 0, 0, 0, 0), some (.aload_n 3, 0, 0, 0), some (.iload_n 1, 0, 0, 0), some (.aload_n 0, 0, 0, 0), some (.getfield 27, 9, 3, 0), none, none, some (.iload_n 1, 0, 0, 0), some (.aaload, 0, 0, 0), some (.invokevirtual 499, 60, 4, 0), none, none, some (.iconst 1, 0, 0, 1), some (.ireturn, 0, 0, 0)]])
def xm58 : XM := (yX8_comesAt, cX8_comesAt, 3, (some .boolean), 0, 0, 0, 0, 8, [[some (.aload_n 0, 0, 0, 0), some (.getfield 15, 8, 6, 0), none, none, some (.iload_n 1, 0, 0, 0), some (.iaload, 0, 0, 0), some (.bipush (-9), 0, 0, (-9)), none, some (.if_icmp .ne 17, 25, 0, 0), none, none, some (.aload_n 0, 0, 0, 0), some (.getfield 9, 8, 5, 0), none, none, some (.iload_n 1, 0, 0, 0)],
  [some (.iaload, 0, 0, 0), some (.iload_n 2, 0, 0, 0), some (.if_icmp .ne 7, 25, 0, 0), none, none, some (.iconst 1, 0, 0, 1), some (.goto 4, 26, 0, 0), none, none, some (.iconst 0, 0, 0, 0), some (.ireturn, 0, 0, 0), none, none, none, none, none]])
def xm59 : XM := (yX9_loseMetWords, cX9_loseMetWords, 3, none, 1, 22, 0, 0, 9, [[some (.iconst 0, 0, 0, 0), some (.istore_n 2, 0, 0, 0), some (.iload_n 2, 0, 0, 0), some (.aload_n 0, 0, 0, 0), some (.getfield 267, 9, 10, 0), none, none, some (.if_icmp .ge 39, 46, 0, 0), none, none, some (.aload_n 0, 0, 0, 0), some (.getfield 33, 9, 4, 0), none, none, some (.iload_n 2, 0, 0, 0), some (.aaload, 0, 0, 0)],
  [some (.iload_n 1, 0, 0, 0), some (.aload_n 0, 0, 0, 0), some (.getfield 159, 9, 12, 0), none, none, some (.invokevirtual 493, 58, 3, 0), none, none, some (.ifCond .eq 16, 40, 0, 0), none, none, some (.aload_n 0, 0, 0, 0), some (.getfield 33, 9, 4, 0), none, none, some (.iload_n 2, 0, 0, 0)],
  [some (.aaload, 0, 0, 0), some (.getfield 308, 8, 6, 0), none, none, some (.iload_n 1, 0, 0, 0), some (.bipush (-10), 0, 0, (-10)), none, some (.iastore, 0, 0, 0), some (.iinc 2 1, 0, 0, 1), none, none, some (.goto (-41), 2, 0, 0), none, none, some (.return_, 0, 0, 0), none]])
def xm60 : XM := (yX9_takeIn, cX9_takeIn, 4, none, 4, 91, 0, 0, 9, [[some (.aload_n 1, 0, 0, 0), some (.getfield 282, 8, 0, 0), none, none, some (.tableswitch 139 1 5 #[36, 63, 75, 86, 111], 0, 0, 0), none, none, none, none, none, none, none, none, none, none, none],
  [none, none, none, none, none, none, none, none, none, none, none, none, none, none, none, none],
  [none, none, none, none, none, none, none, none, some (.aload_n 3, 0, 0, 0), some (.aload_n 0, 0, 0, 0), some (.getfield 21, 9, 2, 0), none, none, some (.aload_n 1, 0, 0, 0), some (.getfield 286, 8, 4, 0), none],
  [none, some (.aload_n 0, 0, 0, 0), some (.getfield 159, 9, 12, 0), none, none, some (.aload_n 1, 0, 0, 0), some (.getfield 503, 8, 2, 0), none, none, some (.isub, 0, 0, 0), some (.invokevirtual 504, 61, 3, 0), none, none, some (.invokevirtual 242, 65, 2, 0), none, none],
  [some (.goto 79, 143, 0, 0), none, none, some (.aload_n 0, 0, 0, 0), some (.iload_n 2, 0, 0, 0), some (.aload_n 1, 0, 0, 0), some (.getfield 289, 8, 3, 0), none, none, some (.invokevirtual 507, 66, 3, 0), none, none, some (.goto 67, 143, 0, 0), none, none, some (.aload_n 3, 0, 0, 0)],
  [some (.aload_n 1, 0, 0, 0), some (.getfield 289, 8, 3, 0), none, none, some (.putfield 201, 0, 5, 0), none, none, some (.goto 56, 143, 0, 0), none, none, some (.aload_n 3, 0, 0, 0), some (.aload_n 0, 0, 0, 0), some (.getfield 21, 9, 2, 0), none, none, some (.aload_n 3, 0, 0, 0)],
  [some (.getfield 191, 0, 4, 0), none, none, some (.invokestatic 347, 68, 1, 0), none, none, some (.aload_n 1, 0, 0, 0), some (.getfield 289, 8, 3, 0), none, none, some (.invokevirtual 350, 69, 3, 0), none, none, some (.putfield 201, 0, 5, 0), none, none],
  [some (.goto 31, 143, 0, 0), none, none, some (.aload_n 3, 0, 0, 0), some (.aload_n 0, 0, 0, 0), some (.getfield 21, 9, 2, 0), none, none, some (.aload_n 3, 0, 0, 0), some (.getfield 191, 0, 4, 0), none, none, some (.invokestatic 347, 68, 1, 0), none, none, some (.aload_n 0, 0, 0, 0)],
  [some (.getfield 21, 9, 2, 0), none, none, some (.getfield 120, 6, 7, 0), none, none, some (.invokevirtual 350, 69, 3, 0), none, none, some (.putfield 201, 0, 5, 0), none, none, some (.goto 3, 143, 0, 0), none, none, some (.return_, 0, 0, 0)]])
def xm61 : XM := (yX6_cellsAtTime, cX6_cellsAtTime, 8, (some .long), 2, 45, 0, 0, 6, [[some (.iload_n 3, 0, 0, 0), some (.iconst 1, 0, 0, 1), some (.if_icmp .ne 7, 9, 0, 0), none, none, some (.lload_n 1, 0, 0, 0), some (.goto 4, 10, 0, 0), none, none, some (.lconst 0, 0, 0, 0), some (.lstore 4, 0, 0, 0), none, some (.iconst 0, 0, 0, 0), some (.istore 6, 0, 0, 0), none, some (.iload 6, 0, 0, 0)],
  [none, some (.bipush 64, 0, 0, 64), none, some (.if_icmp .ge 67, 86, 0, 0), none, none, some (.lload_n 1, 0, 0, 0), some (.iload 6, 0, 0, 0), none, some (.invokestatic 41, 26, 2, 0), none, none, some (.ifCond .ne 6, 34, 0, 0), none, none, some (.goto 49, 80, 0, 0)],
  [none, none, some (.aload_n 0, 0, 0, 0), some (.getfield 31, 6, 5, 0), none, none, some (.iload 6, 0, 0, 0), none, some (.invokevirtual 75, 62, 2, 0), none, none, some (.iconst 0, 0, 0, 0), some (.istore 7, 0, 0, 0), none, some (.iload 7, 0, 0, 0), none],
  [some (.iload_n 3, 0, 0, 0), some (.if_icmp .ge 17, 66, 0, 0), none, none, some (.aload_n 0, 0, 0, 0), some (.getfield 31, 6, 5, 0), none, none, some (.aload_n 0, 0, 0, 0), some (.invokevirtual 82, 63, 2, 0), none, none, some (.iinc 7 1, 0, 0, 1), none, none, some (.goto (-17), 46, 0, 0)],
  [none, none, some (.lload 4, 0, 0, 0), none, some (.aload_n 0, 0, 0, 0), some (.getfield 31, 6, 5, 0), none, none, some (.getfield 79, 7, 0, 0), none, none, some (.iconst 0, 0, 0, 0), some (.laload, 0, 0, 0), some (.lor, 0, 0, 0), some (.lstore 4, 0, 0, 0), none],
  [some (.iinc 6 1, 0, 0, 1), none, none, some (.goto (-68), 15, 0, 0), none, none, some (.lload 4, 0, 0, 0), none, some (.lreturn, 0, 0, 0), none, none, none, none, none, none, none]])
def xm62 : XM := (yX7_beginIn, cX7_beginIn, 3, none, 0, 0, 0, 0, 7, [[some (.iconst 1, 0, 0, 1), some (.istore_n 2, 0, 0, 0), some (.iload_n 2, 0, 0, 0), some (.iconst 4, 0, 0, 4), some (.if_icmp .ge 16, 20, 0, 0), none, none, some (.aload_n 0, 0, 0, 0), some (.getfield 9, 7, 0, 0), none, none, some (.iload_n 2, 0, 0, 0), some (.lconst 0, 0, 0, 0), some (.lastore, 0, 0, 0), some (.iinc 2 1, 0, 0, 1), none],
  [none, some (.goto (-15), 2, 0, 0), none, none, some (.aload_n 0, 0, 0, 0), some (.getfield 9, 7, 0, 0), none, none, some (.iconst 0, 0, 0, 0), some (.lconst 1, 0, 0, 1), some (.iload_n 1, 0, 0, 0), some (.lshl, 0, 0, 0), some (.lastore, 0, 0, 0), some (.aload_n 0, 0, 0, 0), some (.aload_n 0, 0, 0, 0), some (.getfield 9, 7, 0, 0)],
  [none, none, some (.iconst 0, 0, 0, 0), some (.laload, 0, 0, 0), some (.putfield 15, 7, 1, 0), none, none, some (.return_, 0, 0, 0), none, none, none, none, none, none, none, none]])
def xm63 : XM := (yX7_spread, cX7_spread, 5, none, 1, 21, 0, 0, 7, [[some (.lconst 0, 0, 0, 0), some (.lstore_n 2, 0, 0, 0), some (.iconst 1, 0, 0, 1), some (.istore 4, 0, 0, 0), none, some (.iload 4, 0, 0, 0), none, some (.iconst 4, 0, 0, 4), some (.if_icmp .gt 32, 40, 0, 0), none, none, some (.lload_n 2, 0, 0, 0), some (.aload_n 0, 0, 0, 0), some (.getfield 9, 7, 0, 0), none, none],
  [some (.iload 4, 0, 0, 0), none, some (.iconst 1, 0, 0, 1), some (.isub, 0, 0, 0), some (.laload, 0, 0, 0), some (.invokestatic 19, 64, 1, 0), none, none, some (.aload_n 1, 0, 0, 0), some (.getfield 23, 6, 4, 0), none, none, some (.iload 4, 0, 0, 0), none, some (.laload, 0, 0, 0), some (.land, 0, 0, 0)],
  [some (.lor, 0, 0, 0), some (.lstore_n 2, 0, 0, 0), some (.iinc 4 1, 0, 0, 1), none, none, some (.goto (-32), 5, 0, 0), none, none, some (.lload_n 2, 0, 0, 0), some (.aload_n 0, 0, 0, 0), some (.getfield 15, 7, 1, 0), none, none, some (.aload_n 1, 0, 0, 0), some (.getfield 28, 6, 6, 0), none],
  [none, some (.lor, 0, 0, 0), some (.ldc2_w 31, 0, 0, (-1)), none, none, some (.lxor, 0, 0, 0), some (.land, 0, 0, 0), some (.lstore_n 2, 0, 0, 0), some (.iconst 3, 0, 0, 3), some (.istore 4, 0, 0, 0), none, some (.iload 4, 0, 0, 0), none, some (.ifCond .le 25, 86, 0, 0), none, none],
  [some (.aload_n 0, 0, 0, 0), some (.getfield 9, 7, 0, 0), none, none, some (.iload 4, 0, 0, 0), none, some (.aload_n 0, 0, 0, 0), some (.getfield 9, 7, 0, 0), none, none, some (.iload 4, 0, 0, 0), none, some (.iconst 1, 0, 0, 1), some (.isub, 0, 0, 0), some (.laload, 0, 0, 0), some (.lastore, 0, 0, 0)],
  [some (.iinc 4 (-1), 0, 0, (-1)), none, none, some (.goto (-24), 59, 0, 0), none, none, some (.aload_n 0, 0, 0, 0), some (.getfield 9, 7, 0, 0), none, none, some (.iconst 0, 0, 0, 0), some (.lload_n 2, 0, 0, 0), some (.lastore, 0, 0, 0), some (.aload_n 0, 0, 0, 0), some (.dup, 0, 0, 0), some (.getfield 15, 7, 1, 0)],
  [none, none, some (.lload_n 2, 0, 0, 0), some (.lor, 0, 0, 0), some (.putfield 15, 7, 1, 0), none, none, some (.return_, 0, 0, 0), none, none, none, none, none, none, none, none]])
end
section
/-! ===== methods 64 on ===== -/
def xm64 : XM := (yX7_besides, cX7_besides, 2, (some .long), 0, 0, 0, 0, 7, [[some (.lload_n 0, 0, 0, 0), some (.bipush 8, 0, 0, 8), none, some (.lushr, 0, 0, 0), some (.lload_n 0, 0, 0, 0), some (.bipush 8, 0, 0, 8), none, some (.lshl, 0, 0, 0), some (.lor, 0, 0, 0), some (.lload_n 0, 0, 0, 0), some (.ldc2_w 33, 0, 0, (-72340172838076674)), none, none, some (.land, 0, 0, 0), some (.iconst 1, 0, 0, 1), some (.lushr, 0, 0, 0)],
  [some (.lor, 0, 0, 0), some (.lload_n 0, 0, 0, 0), some (.ldc2_w 35, 0, 0, 9187201950435737471), none, none, some (.land, 0, 0, 0), some (.iconst 1, 0, 0, 1), some (.lshl, 0, 0, 0), some (.lor, 0, 0, 0), some (.lreturn, 0, 0, 0), none, none, none, none, none, none]])
def xm65 : XM := (yX0_keepCould, cX0_keepCould, 3, none, 0, 0, 0, 0, 0, [[some (.aload_n 0, 0, 0, 0), some (.getfield 19, 0, 4, 0), none, none, some (.lload_n 1, 0, 0, 0), some (.land, 0, 0, 0), some (.lconst 0, 0, 0, 0), some (.lcmp, 0, 0, 0), some (.ifCond .eq 13, 21, 0, 0), none, none, some (.aload_n 0, 0, 0, 0), some (.dup, 0, 0, 0), some (.getfield 19, 0, 4, 0), none, none],
  [some (.lload_n 1, 0, 0, 0), some (.land, 0, 0, 0), some (.putfield 19, 0, 4, 0), none, none, some (.return_, 0, 0, 0), none, none, none, none, none, none, none, none, none, none]])
def xm66 : XM := (yX9_holdLook, cX9_holdLook, 4, none, 1, 21, 0, 0, 9, [[some (.aload_n 0, 0, 0, 0), some (.iload_n 2, 0, 0, 0), some (.invokevirtual 227, 67, 2, 0), none, none, some (.astore_n 3, 0, 0, 0), some (.aload_n 3, 0, 0, 0), some (.ifnull 15, 22, 0, 0), none, none, some (.aload_n 3, 0, 0, 0), some (.dup, 0, 0, 0), some (.getfield 367, 2, 3, 0), none, none, some (.iconst 1, 0, 0, 1)],
  [some (.iload_n 1, 0, 0, 0), some (.ishl, 0, 0, 0), some (.ior, 0, 0, 0), some (.putfield 367, 2, 3, 0), none, none, some (.return_, 0, 0, 0), none, none, none, none, none, none, none, none, none]])
def xm67 : XM := (yX9_lookAt, cX9_lookAt, 2, (some (.object "IceBoats$Look")), 0, 0, 0, 0, 9, [[some (.iload_n 1, 0, 0, 0), some (.ifCond .lt 20, 21, 0, 0), none, none, some (.iload_n 1, 0, 0, 0), some (.aload_n 0, 0, 0, 0), some (.getfield 215, 9, 11, 0), none, none, some (.if_icmp .ge 12, 21, 0, 0), none, none, some (.aload_n 0, 0, 0, 0), some (.getfield 39, 9, 5, 0), none, none],
  [some (.iload_n 1, 0, 0, 0), some (.aaload, 0, 0, 0), some (.goto 4, 22, 0, 0), none, none, some (.aconst_null, 0, 0, 0), some (.areturn, 0, 0, 0), none, none, none, none, none, none, none, none, none]])
def xm68 : XM := (yX9_leastCell, cX9_leastCell, 2, (some .int), 1, 21, 0, 0, 9, [[some (.lload_n 0, 0, 0, 0), some (.lconst 0, 0, 0, 0), some (.lcmp, 0, 0, 0), some (.ifCond .ne 7, 10, 0, 0), none, none, some (.iconst 0, 0, 0, 0), some (.goto 12, 19, 0, 0), none, none, some (.lload_n 0, 0, 0, 0), some (.lload_n 0, 0, 0, 0), some (.lneg, 0, 0, 0), some (.land, 0, 0, 0), some (.lconst 1, 0, 0, 1), some (.lsub, 0, 0, 0)],
  [some (.invokestatic 246, 43, 1, 0), none, none, some (.ireturn, 0, 0, 0), none, none, none, none, none, none, none, none, none, none, none, none]])
def xm69 : XM := (yX6_wayNearer, cX6_wayNearer, 5, (some .int), 3, 67, 0, 0, 6, [[some (.iload_n 1, 0, 0, 0), some (.iload_n 2, 0, 0, 0), some (.invokestatic 63, 70, 2, 0), none, none, some (.istore_n 3, 0, 0, 0), some (.iconst 1, 0, 0, 1), some (.istore 4, 0, 0, 0), none, some (.iload 4, 0, 0, 0), none, some (.iconst 5, 0, 0, 5), some (.if_icmp .ge 27, 39, 0, 0), none, none, some (.aload_n 0, 0, 0, 0)],
  [some (.iload_n 1, 0, 0, 0), some (.iload 4, 0, 0, 0), none, some (.invokevirtual 55, 53, 3, 0), none, none, some (.iload_n 2, 0, 0, 0), some (.invokestatic 63, 70, 2, 0), none, none, some (.iload_n 3, 0, 0, 0), some (.if_icmp .ge 6, 33, 0, 0), none, none, some (.iload 4, 0, 0, 0), none],
  [some (.ireturn, 0, 0, 0), some (.iinc 4 1, 0, 0, 1), none, none, some (.goto (-27), 9, 0, 0), none, none, some (.iconst 0, 0, 0, 0), some (.ireturn, 0, 0, 0), none, none, none, none, none, none, none]])
def xm70 : XM := (yX9_stepsBetween, cX9_stepsBetween, 2, (some .int), 1, 40, 0, 0, 9, [[some (.iload_n 0, 0, 0, 0), some (.bipush 8, 0, 0, 8), none, some (.irem, 0, 0, 0), some (.iload_n 1, 0, 0, 0), some (.bipush 8, 0, 0, 8), none, some (.irem, 0, 0, 0), some (.isub, 0, 0, 0), some (.invokestatic 470, 7002, 1, 0), none, none, some (.iload_n 0, 0, 0, 0), some (.bipush 8, 0, 0, 8), none, some (.idiv, 0, 0, 0)],
  [some (.iload_n 1, 0, 0, 0), some (.bipush 8, 0, 0, 8), none, some (.idiv, 0, 0, 0), some (.isub, 0, 0, 0), some (.invokestatic 470, 7002, 1, 0), none, none, some (.iadd, 0, 0, 0), some (.ireturn, 0, 0, 0), none, none, none, none, none, none]])
def xm71 : XM := (yX0_failIfDue, cX0_failIfDue, 2, none, 1, 20, 0, 0, 0, [[some (.aload_n 0, 0, 0, 0), some (.invokevirtual 41, 50, 1, 0), none, none, some (.ifCond .ne 4, 8, 0, 0), none, none, some (.return_, 0, 0, 0), some (.aload_n 0, 0, 0, 0), some (.getfield 15, 0, 3, 0), none, none, some (.ifCond .ne 16, 28, 0, 0), none, none, some (.aload_n 0, 0, 0, 0)],
  [some (.iconst 5, 0, 0, 5), some (.putfield 29, 0, 1, 0), none, none, some (.aload_n 0, 0, 0, 0), some (.iload_n 1, 0, 0, 0), some (.putfield 38, 0, 8, 0), none, none, some (.goto 39, 64, 0, 0), none, none, some (.aload_n 0, 0, 0, 0), some (.getfield 9, 0, 0, 0), none, none],
  [some (.iconst 1, 0, 0, 1), some (.iaload, 0, 0, 0), some (.bipush (-9), 0, 0, (-9)), none, some (.if_icmp .eq 28, 64, 0, 0), none, none, some (.iload_n 1, 0, 0, 0), some (.aload_n 0, 0, 0, 0), some (.getfield 35, 0, 6, 0), none, none, some (.isub, 0, 0, 0), some (.aload_n 0, 0, 0, 0), some (.getfield 9, 0, 0, 0), none],
  [none, some (.iconst 1, 0, 0, 1), some (.iaload, 0, 0, 0), some (.if_icmp .le 13, 64, 0, 0), none, none, some (.aload_n 0, 0, 0, 0), some (.iconst 4, 0, 0, 4), some (.putfield 29, 0, 1, 0), none, none, some (.aload_n 0, 0, 0, 0), some (.iload_n 1, 0, 0, 0), some (.putfield 38, 0, 8, 0), none, none],
  [some (.return_, 0, 0, 0), none, none, none, none, none, none, none, none, none, none, none, none, none, none, none]])
def xm72 : XM := (yX9_look, cX9_look, 4, (some .int), 2, 48, 1, 4, 9, [[some (.aload_n 0, 0, 0, 0), some (.iload_n 1, 0, 0, 0), some (.invokevirtual 155, 38, 2, 0), none, none, some (.astore_n 2, 0, 0, 0), some (.aload_n 2, 0, 0, 0), some (.ifnonnull 5, 12, 0, 0), none, none, some (.iconst (-1), 0, 0, (-1)), some (.ireturn, 0, 0, 0), some (.aload_n 2, 0, 0, 0), some (.getfield 170, 0, 1, 0), none, none],
  [some (.iconst 1, 0, 0, 1), some (.if_icmp .ne 7, 24, 0, 0), none, none, some (.iconst 1, 0, 0, 1), some (.goto 4, 25, 0, 0), none, none, some (.iconst 4, 0, 0, 4), some (.istore_n 3, 0, 0, 0), some (.aload_n 2, 0, 0, 0), some (.invokevirtual 198, 50, 1, 0), none, none, some (.ifCond .eq 11, 41, 0, 0), none],
  [none, some (.aload_n 2, 0, 0, 0), some (.getfield 185, 0, 3, 0), none, none, some (.iload_n 3, 0, 0, 0), some (.if_icmp .ge 6, 44, 0, 0), none, none, some (.bipush (-4), 0, 0, (-4)), none, some (.ireturn, 0, 0, 0), some (.aload_n 0, 0, 0, 0), some (.getfield 215, 9, 11, 0), none, none],
  [some (.bipush 40, 0, 0, 40), none, some (.if_icmp .lt 6, 56, 0, 0), none, none, some (.bipush (-2), 0, 0, (-2)), none, some (.ireturn, 0, 0, 0), some (.aload_n 2, 0, 0, 0), some (.dup, 0, 0, 0), some (.getfield 185, 0, 3, 0), none, none, some (.iload_n 3, 0, 0, 0), some (.isub, 0, 0, 0), some (.putfield 185, 0, 3, 0)],
  [none, none, some (.aload_n 2, 0, 0, 0), some (.dup, 0, 0, 0), some (.getfield 176, 0, 9, 0), none, none, some (.iconst 1, 0, 0, 1), some (.iadd, 0, 0, 0), some (.putfield 176, 0, 9, 0), none, none, some (.aload_n 2, 0, 0, 0), some (.new 37, 2, 0, 0), none, none],
  [some (.dup, 0, 0, 0), some (.aload_n 2, 0, 0, 0), some (.getfield 218, 0, 2, 0), none, none, some (.aload_n 0, 0, 0, 0), some (.getfield 21, 9, 2, 0), none, none, some (.getfield 145, 6, 2, 0), none, none, some (.aload_n 2, 0, 0, 0), some (.getfield 218, 0, 2, 0), none, none],
  [some (.iaload, 0, 0, 0), some (.aload_n 0, 0, 0, 0), some (.getfield 159, 9, 12, 0), none, none, some (.iconst 1, 0, 0, 1), some (.iload_n 1, 0, 0, 0), some (.ishl, 0, 0, 0), some (.invokespecial 221, 73, 5, 0), none, none, some (.putfield 223, 0, 11, 0), none, none, some (.aload_n 0, 0, 0, 0), some (.getfield 39, 9, 5, 0)],
  [none, none, some (.aload_n 0, 0, 0, 0), some (.getfield 215, 9, 11, 0), none, none, some (.aload_n 2, 0, 0, 0), some (.getfield 223, 0, 11, 0), none, none, some (.aastore, 0, 0, 0), some (.aload_n 0, 0, 0, 0), some (.dup, 0, 0, 0), some (.getfield 215, 9, 11, 0), none, none],
  [some (.iconst 1, 0, 0, 1), some (.iadd, 0, 0, 0), some (.putfield 215, 9, 11, 0), none, none, some (.aload_n 0, 0, 0, 0), some (.getfield 215, 9, 11, 0), none, none, some (.iconst 1, 0, 0, 1), some (.isub, 0, 0, 0), some (.ireturn, 0, 0, 0), none, none, none, none]])
def xm73 : XM := (yX2_init, cX2_init, 5, none, 1, 24, 0, 0, 2, [[some (.aload_n 0, 0, 0, 0), some (.invokespecial 1, 9999, 0, 0), none, none, some (.aload_n 0, 0, 0, 0), some (.iload_n 1, 0, 0, 0), some (.putfield 7, 2, 0, 0), none, none, some (.aload_n 0, 0, 0, 0), some (.iload_n 2, 0, 0, 0), some (.putfield 13, 2, 1, 0), none, none, some (.aload_n 0, 0, 0, 0), some (.iload_n 3, 0, 0, 0)],
  [some (.putfield 16, 2, 2, 0), none, none, some (.aload_n 0, 0, 0, 0), some (.iload 4, 0, 0, 0), none, some (.putfield 19, 2, 3, 0), none, none, some (.return_, 0, 0, 0), none, none, none, none, none, none]])
def xm74 : XM := (yX9_looked, cX9_looked, 4, (some .int), 1, 21, 0, 0, 9, [[some (.aload_n 0, 0, 0, 0), some (.iload_n 1, 0, 0, 0), some (.invokevirtual 227, 67, 2, 0), none, none, some (.astore_n 3, 0, 0, 0), some (.aload_n 3, 0, 0, 0), some (.ifnull 12, 19, 0, 0), none, none, some (.iload_n 2, 0, 0, 0), some (.ifCond .lt 8, 19, 0, 0), none, none, some (.iload_n 2, 0, 0, 0), some (.iconst 3, 0, 0, 3)],
  [some (.if_icmp .le 5, 21, 0, 0), none, none, some (.iconst (-1), 0, 0, (-1)), some (.ireturn, 0, 0, 0), some (.aload_n 0, 0, 0, 0), some (.aload_n 3, 0, 0, 0), some (.iload_n 2, 0, 0, 0), some (.invokevirtual 231, 75, 2, 0), none, none, some (.invokevirtual 101, 15, 2, 0), none, none, some (.ireturn, 0, 0, 0), none]])
def xm75 : XM := (yX2_tellOf, cX2_tellOf, 2, (some .int), 0, 0, 0, 0, 2, [[some (.iload_n 1, 0, 0, 0), some (.tableswitch 42 0 2 #[27, 32, 37], 0, 0, 0), none, none, none, none, none, none, none, none, none, none, none, none, none, none],
  [none, none, none, none, none, none, none, none, none, none, none, none, some (.aload_n 0, 0, 0, 0), some (.getfield 7, 2, 0, 0), none, none],
  [some (.ireturn, 0, 0, 0), some (.aload_n 0, 0, 0, 0), some (.getfield 13, 2, 1, 0), none, none, some (.ireturn, 0, 0, 0), some (.aload_n 0, 0, 0, 0), some (.getfield 19, 2, 3, 0), none, none, some (.ireturn, 0, 0, 0), some (.aload_n 0, 0, 0, 0), some (.getfield 16, 2, 2, 0), none, none, some (.ireturn, 0, 0, 0)]])
def xm76 : XM := (yX9_match, cX9_match, 4, (some .int), 2, 41, 0, 0, 9, [[some (.aload_n 0, 0, 0, 0), some (.iload_n 1, 0, 0, 0), some (.invokevirtual 155, 38, 2, 0), none, none, some (.astore_n 2, 0, 0, 0), some (.aload_n 2, 0, 0, 0), some (.ifnonnull 5, 12, 0, 0), none, none, some (.iconst (-1), 0, 0, (-1)), some (.ireturn, 0, 0, 0), some (.aload_n 2, 0, 0, 0), some (.getfield 223, 0, 11, 0), none, none],
  [some (.astore_n 3, 0, 0, 0), some (.aload_n 3, 0, 0, 0), some (.ifnull 14, 32, 0, 0), none, none, some (.aload_n 3, 0, 0, 0), some (.getfield 233, 2, 2, 0), none, none, some (.aload_n 0, 0, 0, 0), some (.getfield 159, 9, 12, 0), none, none, some (.if_icmp .eq 6, 35, 0, 0), none, none],
  [some (.bipush (-4), 0, 0, (-4)), none, some (.ireturn, 0, 0, 0), some (.aload_n 2, 0, 0, 0), some (.aload_n 0, 0, 0, 0), some (.getfield 21, 9, 2, 0), none, none, some (.aload_n 3, 0, 0, 0), some (.getfield 236, 2, 1, 0), none, none, some (.invokevirtual 238, 77, 2, 0), none, none, some (.invokevirtual 242, 65, 2, 0)],
  [none, none, some (.aload_n 2, 0, 0, 0), some (.getfield 191, 0, 4, 0), none, none, some (.invokestatic 246, 43, 1, 0), none, none, some (.ireturn, 0, 0, 0), none, none, none, none, none, none]])
def xm77 : XM := (yX6_cellsChartedAs, cX6_cellsChartedAs, 5, (some .long), 0, 0, 0, 0, 6, [[some (.lconst 0, 0, 0, 0), some (.lstore_n 2, 0, 0, 0), some (.iconst 0, 0, 0, 0), some (.istore 4, 0, 0, 0), none, some (.iload 4, 0, 0, 0), none, some (.bipush 64, 0, 0, 64), none, some (.if_icmp .ge 39, 48, 0, 0), none, none, some (.aload_n 0, 0, 0, 0), some (.getfield 21, 6, 3, 0), none, none],
  [some (.iload 4, 0, 0, 0), none, some (.iaload, 0, 0, 0), some (.bipush (-9), 0, 0, (-9)), none, some (.if_icmp .eq 14, 35, 0, 0), none, none, some (.aload_n 0, 0, 0, 0), some (.getfield 21, 6, 3, 0), none, none, some (.iload 4, 0, 0, 0), none, some (.iaload, 0, 0, 0), some (.iload_n 1, 0, 0, 0)],
  [some (.if_icmp .ne 10, 42, 0, 0), none, none, some (.lload_n 2, 0, 0, 0), some (.lconst 1, 0, 0, 1), some (.iload 4, 0, 0, 0), none, some (.lshl, 0, 0, 0), some (.lor, 0, 0, 0), some (.lstore_n 2, 0, 0, 0), some (.iinc 4 1, 0, 0, 1), none, none, some (.goto (-40), 5, 0, 0), none, none],
  [some (.lload_n 2, 0, 0, 0), some (.lreturn, 0, 0, 0), none, none, none, none, none, none, none, none, none, none, none, none, none, none]])
def xm78 : XM := (yX9_home, cX9_home, 3, (some .int), 2, 41, 0, 0, 9, [[some (.aload_n 0, 0, 0, 0), some (.iload_n 1, 0, 0, 0), some (.invokevirtual 155, 38, 2, 0), none, none, some (.astore_n 2, 0, 0, 0), some (.aload_n 2, 0, 0, 0), some (.ifnonnull 5, 12, 0, 0), none, none, some (.iconst (-1), 0, 0, (-1)), some (.ireturn, 0, 0, 0), some (.aload_n 2, 0, 0, 0), some (.invokevirtual 198, 50, 1, 0), none, none],
  [some (.ifCond .eq 17, 33, 0, 0), none, none, some (.aload_n 2, 0, 0, 0), some (.getfield 218, 0, 2, 0), none, none, some (.aload_n 0, 0, 0, 0), some (.getfield 21, 9, 2, 0), none, none, some (.getfield 120, 6, 7, 0), none, none, some (.if_icmp .eq 6, 36, 0, 0), none],
  [none, some (.bipush (-4), 0, 0, (-4)), none, some (.ireturn, 0, 0, 0), some (.aload_n 2, 0, 0, 0), some (.bipush 6, 0, 0, 6), none, some (.putfield 170, 0, 1, 0), none, none, some (.iconst 1, 0, 0, 1), some (.ireturn, 0, 0, 0), none, none, none, none]])
def xm79 : XM := (yX9_time, cX9_time, 4, (some .int), 3, 69, 0, 0, 9, [[some (.aload_n 0, 0, 0, 0), some (.iload_n 1, 0, 0, 0), some (.invokevirtual 251, 80, 2, 0), none, none, some (.ifCond .eq 11, 16, 0, 0), none, none, some (.aload_n 0, 0, 0, 0), some (.iload_n 2, 0, 0, 0), some (.invokevirtual 251, 80, 2, 0), none, none, some (.ifCond .ne 5, 18, 0, 0), none, none],
  [some (.iconst (-1), 0, 0, (-1)), some (.ireturn, 0, 0, 0), some (.aload_n 0, 0, 0, 0), some (.getfield 21, 9, 2, 0), none, none, some (.iload_n 1, 0, 0, 0), some (.iload_n 2, 0, 0, 0), some (.sipush 256, 0, 0, 256), none, none, some (.invokevirtual 254, 81, 4, 0), none, none, some (.istore_n 3, 0, 0, 0), some (.iload_n 3, 0, 0, 0)],
  [some (.bipush (-9), 0, 0, (-9)), none, some (.if_icmp .ne 11, 45, 0, 0), none, none, some (.aload_n 0, 0, 0, 0), some (.iconst 1, 0, 0, 1), some (.invokevirtual 82, 10, 2, 0), none, none, some (.goto 4, 46, 0, 0), none, none, some (.iload_n 3, 0, 0, 0), some (.ireturn, 0, 0, 0), none]])
def xm80 : XM := (yX9_isOpenCell, cX9_isOpenCell, 2, (some .boolean), 2, 43, 0, 0, 9, [[some (.iload_n 1, 0, 0, 0), some (.invokestatic 116, 23, 1, 0), none, none, some (.ifCond .eq 18, 22, 0, 0), none, none, some (.aload_n 0, 0, 0, 0), some (.getfield 21, 9, 2, 0), none, none, some (.iload_n 1, 0, 0, 0), some (.invokevirtual 126, 25, 2, 0), none, none, some (.ifCond .ne 7, 22, 0, 0)],
  [none, none, some (.iconst 1, 0, 0, 1), some (.goto 4, 23, 0, 0), none, none, some (.iconst 0, 0, 0, 0), some (.ireturn, 0, 0, 0), none, none, none, none, none, none, none, none]])
def xm81 : XM := (yX6_soundTime, cX6_soundTime, 5, (some .int), 2, 45, 0, 0, 6, [[some (.aload_n 0, 0, 0, 0), some (.getfield 31, 6, 5, 0), none, none, some (.iload_n 1, 0, 0, 0), some (.invokevirtual 75, 62, 2, 0), none, none, some (.iconst 0, 0, 0, 0), some (.istore 4, 0, 0, 0), none, some (.iload 4, 0, 0, 0), none, some (.iload_n 3, 0, 0, 0), some (.if_icmp .gt 36, 50, 0, 0), none],
  [none, some (.aload_n 0, 0, 0, 0), some (.getfield 31, 6, 5, 0), none, none, some (.getfield 79, 7, 0, 0), none, none, some (.iconst 0, 0, 0, 0), some (.laload, 0, 0, 0), some (.iload_n 2, 0, 0, 0), some (.invokestatic 41, 26, 2, 0), none, none, some (.ifCond .eq 6, 36, 0, 0), none],
  [none, some (.iload 4, 0, 0, 0), none, some (.ireturn, 0, 0, 0), some (.aload_n 0, 0, 0, 0), some (.getfield 31, 6, 5, 0), none, none, some (.aload_n 0, 0, 0, 0), some (.invokevirtual 82, 63, 2, 0), none, none, some (.iinc 4 1, 0, 0, 1), none, none, some (.goto (-36), 11, 0, 0)],
  [none, none, some (.bipush (-9), 0, 0, (-9)), none, some (.ireturn, 0, 0, 0), none, none, none, none, none, none, none, none, none, none, none]])
def xm82 : XM := (yX9_say, cX9_say, 7, (some .int), 4, 93, 3, 19, 9, [[some (.aload_n 0, 0, 0, 0), some (.iload_n 1, 0, 0, 0), some (.invokevirtual 155, 38, 2, 0), none, none, some (.astore 4, 0, 0, 0), none, some (.aload 4, 0, 0, 0), none, some (.ifnull 21, 30, 0, 0), none, none, some (.iload_n 2, 0, 0, 0), some (.ifCond .lt 17, 30, 0, 0), none, none],
  [some (.iload_n 2, 0, 0, 0), some (.iconst 5, 0, 0, 5), some (.if_icmp .gt 12, 30, 0, 0), none, none, some (.aload_n 0, 0, 0, 0), some (.iload_n 2, 0, 0, 0), some (.iload_n 3, 0, 0, 0), some (.invokevirtual 258, 83, 3, 0), none, none, some (.ifCond .ne 5, 32, 0, 0), none, none, some (.iconst (-1), 0, 0, (-1)), some (.ireturn, 0, 0, 0)],
  [some (.aload 4, 0, 0, 0), none, some (.invokevirtual 198, 50, 1, 0), none, none, some (.ifCond .eq 24, 61, 0, 0), none, none, some (.aload 4, 0, 0, 0), none, some (.getfield 261, 0, 7, 0), none, none, some (.aload_n 0, 0, 0, 0), some (.getfield 159, 9, 12, 0), none],
  [none, some (.if_icmp .eq 12, 61, 0, 0), none, none, some (.aload 4, 0, 0, 0), none, some (.getfield 185, 0, 3, 0), none, none, some (.iconst 3, 0, 0, 3), some (.if_icmp .ge 6, 64, 0, 0), none, none, some (.bipush (-4), 0, 0, (-4)), none, some (.ireturn, 0, 0, 0)],
  [some (.iload_n 2, 0, 0, 0), some (.iconst 2, 0, 0, 2), some (.if_icmp .ne 15, 81, 0, 0), none, none, some (.aload_n 0, 0, 0, 0), some (.iload_n 1, 0, 0, 0), some (.iload_n 3, 0, 0, 0), some (.invokevirtual 264, 84, 3, 0), none, none, some (.ifCond .ne 6, 81, 0, 0), none, none, some (.bipush (-4), 0, 0, (-4)), none],
  [some (.ireturn, 0, 0, 0), some (.aload_n 0, 0, 0, 0), some (.getfield 267, 9, 10, 0), none, none, some (.bipush 40, 0, 0, 40), none, some (.if_icmp .lt 6, 93, 0, 0), none, none, some (.bipush (-2), 0, 0, (-2)), none, some (.ireturn, 0, 0, 0), some (.aload 4, 0, 0, 0), none, some (.dup, 0, 0, 0)],
  [some (.getfield 185, 0, 3, 0), none, none, some (.iconst 3, 0, 0, 3), some (.isub, 0, 0, 0), some (.putfield 185, 0, 3, 0), none, none, some (.aload 4, 0, 0, 0), none, some (.aload_n 0, 0, 0, 0), some (.getfield 159, 9, 12, 0), none, none, some (.putfield 261, 0, 7, 0), none],
  [none, some (.aload 4, 0, 0, 0), none, some (.dup, 0, 0, 0), some (.getfield 179, 0, 10, 0), none, none, some (.iconst 1, 0, 0, 1), some (.iadd, 0, 0, 0), some (.putfield 179, 0, 10, 0), none, none, some (.iload_n 2, 0, 0, 0), some (.iconst 2, 0, 0, 2), some (.if_icmp .eq 13, 139, 0, 0), none],
  [none, some (.iload_n 2, 0, 0, 0), some (.iconst 3, 0, 0, 3), some (.if_icmp .eq 8, 139, 0, 0), none, none, some (.iload_n 2, 0, 0, 0), some (.iconst 4, 0, 0, 4), some (.if_icmp .ne 7, 143, 0, 0), none, none, some (.iconst 1, 0, 0, 1), some (.goto 4, 144, 0, 0), none, none, some (.iconst 0, 0, 0, 0)],
  [some (.istore 5, 0, 0, 0), none, some (.new 31, 8, 0, 0), none, none, some (.dup, 0, 0, 0), some (.iload_n 2, 0, 0, 0), some (.iload_n 1, 0, 0, 0), some (.aload_n 0, 0, 0, 0), some (.getfield 159, 9, 12, 0), none, none, some (.iload 5, 0, 0, 0), none, some (.ifCond .eq 7, 165, 0, 0), none],
  [none, some (.iload_n 3, 0, 0, 0), some (.goto 4, 166, 0, 0), none, none, some (.iconst 0, 0, 0, 0), some (.aload 4, 0, 0, 0), none, some (.getfield 191, 0, 4, 0), none, none, some (.invokespecial 270, 85, 6, 0), none, none, some (.astore 6, 0, 0, 0), none],
  [some (.aload_n 0, 0, 0, 0), some (.aload 6, 0, 0, 0), none, some (.aload 4, 0, 0, 0), none, some (.getfield 218, 0, 2, 0), none, none, some (.invokevirtual 273, 86, 3, 0), none, none, some (.aload_n 0, 0, 0, 0), some (.getfield 33, 9, 4, 0), none, none, some (.aload_n 0, 0, 0, 0)],
  [some (.getfield 267, 9, 10, 0), none, none, some (.aload 6, 0, 0, 0), none, some (.aastore, 0, 0, 0), some (.aload_n 0, 0, 0, 0), some (.dup, 0, 0, 0), some (.getfield 267, 9, 10, 0), none, none, some (.iconst 1, 0, 0, 1), some (.iadd, 0, 0, 0), some (.putfield 267, 9, 10, 0), none, none],
  [some (.aload_n 0, 0, 0, 0), some (.getfield 267, 9, 10, 0), none, none, some (.iconst 1, 0, 0, 1), some (.isub, 0, 0, 0), some (.ireturn, 0, 0, 0), none, none, none, none, none, none, none, none, none]])
def xm83 : XM := (yX9_fitsWord, cX9_fitsWord, 3, (some .boolean), 1, 21, 0, 0, 9, [[some (.iload_n 1, 0, 0, 0), some (.tableswitch 51 2 4 #[27, 41, 46], 0, 0, 0), none, none, none, none, none, none, none, none, none, none, none, none, none, none],
  [none, none, none, none, none, none, none, none, none, none, none, none, some (.aload_n 0, 0, 0, 0), some (.iload_n 2, 0, 0, 0), some (.invokevirtual 227, 67, 2, 0), none],
  [none, some (.ifnull 7, 40, 0, 0), none, none, some (.iconst 1, 0, 0, 1), some (.goto 4, 41, 0, 0), none, none, some (.iconst 0, 0, 0, 0), some (.ireturn, 0, 0, 0), some (.iload_n 2, 0, 0, 0), some (.invokestatic 133, 29, 1, 0), none, none, some (.ireturn, 0, 0, 0), some (.iload_n 2, 0, 0, 0)],
  [some (.invokestatic 116, 23, 1, 0), none, none, some (.ireturn, 0, 0, 0), some (.iconst 1, 0, 0, 1), some (.ireturn, 0, 0, 0), none, none, none, none, none, none, none, none, none, none]])
def xm84 : XM := (yX9_holdsLook, cX9_holdsLook, 4, (some .boolean), 1, 22, 0, 0, 9, [[some (.aload_n 0, 0, 0, 0), some (.iload_n 2, 0, 0, 0), some (.invokevirtual 227, 67, 2, 0), none, none, some (.astore_n 3, 0, 0, 0), some (.aload_n 3, 0, 0, 0), some (.ifnull 19, 26, 0, 0), none, none, some (.aload_n 3, 0, 0, 0), some (.getfield 367, 2, 3, 0), none, none, some (.i2l, 0, 0, 0), some (.iload_n 1, 0, 0, 0)],
  [some (.invokestatic 325, 26, 2, 0), none, none, some (.ifCond .eq 7, 26, 0, 0), none, none, some (.iconst 1, 0, 0, 1), some (.goto 4, 27, 0, 0), none, none, some (.iconst 0, 0, 0, 0), some (.ireturn, 0, 0, 0), none, none, none, none]])
def xm85 : XM := (yX8_init, cX8_init, 7, none, 1, 24, 2, 12, 8, [[some (.aload_n 0, 0, 0, 0), some (.invokespecial 3, 9999, 0, 0), none, none, some (.aload_n 0, 0, 0, 0), some (.bipush 6, 0, 0, 6), none, some (.newarray .int, 0, 0, 0), none, some (.putfield 9, 8, 5, 0), none, none, some (.aload_n 0, 0, 0, 0), some (.bipush 6, 0, 0, 6), none, some (.newarray .int, 0, 0, 0)],
  [none, some (.putfield 15, 8, 6, 0), none, none, some (.aload_n 0, 0, 0, 0), some (.iload_n 1, 0, 0, 0), some (.putfield 18, 8, 0, 0), none, none, some (.aload_n 0, 0, 0, 0), some (.iload_n 2, 0, 0, 0), some (.putfield 22, 8, 1, 0), none, none, some (.aload_n 0, 0, 0, 0), some (.iload_n 3, 0, 0, 0)],
  [some (.putfield 25, 8, 2, 0), none, none, some (.aload_n 0, 0, 0, 0), some (.iload 4, 0, 0, 0), none, some (.putfield 28, 8, 3, 0), none, none, some (.aload_n 0, 0, 0, 0), some (.lload 5, 0, 0, 0), none, some (.putfield 31, 8, 4, 0), none, none, some (.return_, 0, 0, 0)]])
def xm86 : XM := (yX9_sendWord, cX9_sendWord, 5, none, 3, 69, 0, 0, 9, [[some (.iconst 0, 0, 0, 0), some (.istore_n 3, 0, 0, 0), some (.iload_n 3, 0, 0, 0), some (.bipush 6, 0, 0, 6), none, some (.if_icmp .ge 91, 96, 0, 0), none, none, some (.bipush (-9), 0, 0, (-9)), none, some (.istore 4, 0, 0, 0), none, some (.iload_n 3, 0, 0, 0), some (.aload_n 1, 0, 0, 0), some (.getfield 299, 8, 1, 0), none],
  [none, some (.if_icmp .eq 36, 53, 0, 0), none, none, some (.aload_n 0, 0, 0, 0), some (.getfield 27, 9, 3, 0), none, none, some (.iload_n 3, 0, 0, 0), some (.aaload, 0, 0, 0), some (.invokevirtual 198, 50, 1, 0), none, none, some (.ifCond .eq 24, 53, 0, 0), none, none],
  [some (.aload_n 0, 0, 0, 0), some (.getfield 21, 9, 2, 0), none, none, some (.iload_n 2, 0, 0, 0), some (.aload_n 0, 0, 0, 0), some (.getfield 27, 9, 3, 0), none, none, some (.iload_n 3, 0, 0, 0), some (.aaload, 0, 0, 0), some (.getfield 218, 0, 2, 0), none, none, some (.bipush 12, 0, 0, 12), none],
  [some (.invokevirtual 254, 81, 4, 0), none, none, some (.istore 4, 0, 0, 0), none, some (.aload_n 1, 0, 0, 0), some (.getfield 308, 8, 6, 0), none, none, some (.iload_n 3, 0, 0, 0), some (.iload 4, 0, 0, 0), none, some (.bipush (-9), 0, 0, (-9)), none, some (.if_icmp .ne 8, 70, 0, 0), none],
  [none, some (.bipush (-11), 0, 0, (-11)), none, some (.goto 5, 72, 0, 0), none, none, some (.bipush (-9), 0, 0, (-9)), none, some (.iastore, 0, 0, 0), some (.aload_n 1, 0, 0, 0), some (.getfield 510, 8, 5, 0), none, none, some (.iload_n 3, 0, 0, 0), some (.aload_n 1, 0, 0, 0), some (.getfield 503, 8, 2, 0)],
  [none, none, some (.iload 4, 0, 0, 0), none, some (.iconst 1, 0, 0, 1), some (.invokestatic 332, 7000, 2, 0), none, none, some (.iadd, 0, 0, 0), some (.iastore, 0, 0, 0), some (.iinc 3 1, 0, 0, 1), none, none, some (.goto (-91), 2, 0, 0), none, none],
  [some (.return_, 0, 0, 0), none, none, none, none, none, none, none, none, none, none, none, none, none, none, none]])
def xm87 : XM := (yX9_word, cX9_word, 4, (some .int), 1, 21, 0, 0, 9, [[some (.aload_n 0, 0, 0, 0), some (.iload_n 1, 0, 0, 0), some (.invokevirtual 277, 88, 2, 0), none, none, some (.astore_n 3, 0, 0, 0), some (.aload_n 3, 0, 0, 0), some (.ifnull 12, 19, 0, 0), none, none, some (.iload_n 2, 0, 0, 0), some (.ifCond .lt 8, 19, 0, 0), none, none, some (.iload_n 2, 0, 0, 0), some (.iconst 3, 0, 0, 3)],
  [some (.if_icmp .le 5, 21, 0, 0), none, none, some (.iconst (-1), 0, 0, (-1)), some (.ireturn, 0, 0, 0), some (.aload_n 0, 0, 0, 0), some (.aload_n 3, 0, 0, 0), some (.iload_n 2, 0, 0, 0), some (.invokevirtual 281, 89, 2, 0), none, none, some (.invokevirtual 101, 15, 2, 0), none, none, some (.ireturn, 0, 0, 0), none]])
def xm88 : XM := (yX9_wordAt, cX9_wordAt, 2, (some (.object "IceBoats$Word")), 0, 0, 0, 0, 9, [[some (.iload_n 1, 0, 0, 0), some (.ifCond .lt 20, 21, 0, 0), none, none, some (.iload_n 1, 0, 0, 0), some (.aload_n 0, 0, 0, 0), some (.getfield 267, 9, 10, 0), none, none, some (.if_icmp .ge 12, 21, 0, 0), none, none, some (.aload_n 0, 0, 0, 0), some (.getfield 33, 9, 4, 0), none, none],
  [some (.iload_n 1, 0, 0, 0), some (.aaload, 0, 0, 0), some (.goto 4, 22, 0, 0), none, none, some (.aconst_null, 0, 0, 0), some (.areturn, 0, 0, 0), none, none, none, none, none, none, none, none, none]])
def xm89 : XM := (yX8_tellOf, cX8_tellOf, 2, (some .int), 0, 0, 0, 0, 8, [[some (.iload_n 1, 0, 0, 0), some (.tableswitch 42 0 2 #[27, 32, 37], 0, 0, 0), none, none, none, none, none, none, none, none, none, none, none, none, none, none],
  [none, none, none, none, none, none, none, none, none, none, none, none, some (.aload_n 0, 0, 0, 0), some (.getfield 18, 8, 0, 0), none, none],
  [some (.ireturn, 0, 0, 0), some (.aload_n 0, 0, 0, 0), some (.getfield 22, 8, 1, 0), none, none, some (.ireturn, 0, 0, 0), some (.aload_n 0, 0, 0, 0), some (.getfield 25, 8, 2, 0), none, none, some (.ireturn, 0, 0, 0), some (.aload_n 0, 0, 0, 0), some (.getfield 28, 8, 3, 0), none, none, some (.ireturn, 0, 0, 0)]])
def xm90 : XM := (yX9_tells, cX9_tells, 4, (some .int), 2, 61, 0, 0, 9, [[some (.aload_n 0, 0, 0, 0), some (.iload_n 1, 0, 0, 0), some (.invokevirtual 277, 88, 2, 0), none, none, some (.astore_n 3, 0, 0, 0), some (.aload_n 3, 0, 0, 0), some (.ifnull 13, 20, 0, 0), none, none, some (.iload_n 2, 0, 0, 0), some (.iconst 1, 0, 0, 1), some (.if_icmp .lt 8, 20, 0, 0), none, none, some (.iload_n 2, 0, 0, 0)],
  [some (.iconst 5, 0, 0, 5), some (.if_icmp .le 5, 22, 0, 0), none, none, some (.iconst (-1), 0, 0, (-1)), some (.ireturn, 0, 0, 0), some (.aload_n 3, 0, 0, 0), some (.getfield 282, 8, 0, 0), none, none, some (.iload_n 2, 0, 0, 0), some (.if_icmp .eq 21, 48, 0, 0), none, none, some (.getstatic 283, 3, 0, 0), none],
  [none, some (.aload_n 3, 0, 0, 0), some (.getfield 282, 8, 0, 0), none, none, some (.iaload, 0, 0, 0), some (.iload_n 2, 0, 0, 0), some (.if_icmp .eq 9, 48, 0, 0), none, none, some (.aload_n 0, 0, 0, 0), some (.iconst 3, 0, 0, 3), some (.invokevirtual 82, 10, 2, 0), none, none, some (.ireturn, 0, 0, 0)],
  [some (.iload_n 2, 0, 0, 0), some (.tableswitch 58 1 4 #[31, 39, 48, 53], 0, 0, 0), none, none, none, none, none, none, none, none, none, none, none, none, none, none],
  [none, none, none, none, none, none, none, none, none, none, none, none, none, none, none, none],
  [some (.aload_n 3, 0, 0, 0), some (.getfield 286, 8, 4, 0), none, none, some (.invokestatic 246, 43, 1, 0), none, none, some (.ireturn, 0, 0, 0), some (.aload_n 0, 0, 0, 0), some (.aload_n 3, 0, 0, 0), some (.getfield 289, 8, 3, 0), none, none, some (.invokevirtual 292, 91, 2, 0), none, none],
  [some (.ireturn, 0, 0, 0), some (.aload_n 3, 0, 0, 0), some (.invokevirtual 295, 92, 1, 0), none, none, some (.ireturn, 0, 0, 0), some (.aload_n 3, 0, 0, 0), some (.getfield 289, 8, 3, 0), none, none, some (.ireturn, 0, 0, 0), some (.aload_n 0, 0, 0, 0), some (.getfield 27, 9, 3, 0), none, none, some (.aload_n 3, 0, 0, 0)],
  [some (.getfield 299, 8, 1, 0), none, none, some (.aaload, 0, 0, 0), some (.getfield 218, 0, 2, 0), none, none, some (.aload_n 0, 0, 0, 0), some (.getfield 21, 9, 2, 0), none, none, some (.getfield 120, 6, 7, 0), none, none, some (.invokestatic 302, 70, 2, 0), none],
  [none, some (.ireturn, 0, 0, 0), none, none, none, none, none, none, none, none, none, none, none, none, none, none]])
def xm91 : XM := (yX9_iceOfLook, cX9_iceOfLook, 3, (some .int), 1, 21, 0, 0, 9, [[some (.aload_n 0, 0, 0, 0), some (.iload_n 1, 0, 0, 0), some (.invokevirtual 227, 67, 2, 0), none, none, some (.astore_n 2, 0, 0, 0), some (.aload_n 2, 0, 0, 0), some (.ifnonnull 8, 15, 0, 0), none, none, some (.bipush (-9), 0, 0, (-9)), none, some (.goto 7, 19, 0, 0), none, none, some (.aload_n 2, 0, 0, 0)],
  [some (.getfield 236, 2, 1, 0), none, none, some (.ireturn, 0, 0, 0), none, none, none, none, none, none, none, none, none, none, none, none]])
def xm92 : XM := (yX8_hearers, cX8_hearers, 3, (some .int), 0, 0, 0, 0, 8, [[some (.iconst 0, 0, 0, 0), some (.istore_n 1, 0, 0, 0), some (.iconst 0, 0, 0, 0), some (.istore_n 2, 0, 0, 0), some (.iload_n 2, 0, 0, 0), some (.bipush 6, 0, 0, 6), none, some (.if_icmp .ge 26, 33, 0, 0), none, none, some (.iload_n 1, 0, 0, 0), some (.aload_n 0, 0, 0, 0), some (.getfield 15, 8, 6, 0), none, none, some (.iload_n 2, 0, 0, 0)],
  [some (.iaload, 0, 0, 0), some (.ifCond .lt 7, 24, 0, 0), none, none, some (.iconst 1, 0, 0, 1), some (.goto 4, 25, 0, 0), none, none, some (.iconst 0, 0, 0, 0), some (.iadd, 0, 0, 0), some (.istore_n 1, 0, 0, 0), some (.iinc 2 1, 0, 0, 1), none, none, some (.goto (-26), 4, 0, 0), none],
  [none, some (.iload_n 1, 0, 0, 0), some (.ireturn, 0, 0, 0), none, none, none, none, none, none, none, none, none, none, none, none, none]])
def xm93 : XM := (yX9_heard, cX9_heard, 4, (some .int), 1, 21, 0, 0, 9, [[some (.aload_n 0, 0, 0, 0), some (.iload_n 1, 0, 0, 0), some (.invokevirtual 277, 88, 2, 0), none, none, some (.astore_n 3, 0, 0, 0), some (.aload_n 3, 0, 0, 0), some (.ifnull 10, 17, 0, 0), none, none, some (.iload_n 2, 0, 0, 0), some (.invokestatic 305, 39, 1, 0), none, none, some (.ifCond .ne 5, 19, 0, 0), none],
  [none, some (.iconst (-1), 0, 0, (-1)), some (.ireturn, 0, 0, 0), some (.aload_n 3, 0, 0, 0), some (.getfield 308, 8, 6, 0), none, none, some (.iload_n 2, 0, 0, 0), some (.iaload, 0, 0, 0), some (.ireturn, 0, 0, 0), none, none, none, none, none, none]])
def xm94 : XM := (yX9_knows, cX9_knows, 6, (some .int), 3, 76, 0, 0, 9, [[some (.aload_n 0, 0, 0, 0), some (.iload_n 1, 0, 0, 0), some (.invokevirtual 277, 88, 2, 0), none, none, some (.astore 5, 0, 0, 0), none, some (.aload 5, 0, 0, 0), none, some (.ifnull 38, 47, 0, 0), none, none, some (.iload_n 2, 0, 0, 0), some (.invokestatic 305, 39, 1, 0), none, none],
  [some (.ifCond .eq 31, 47, 0, 0), none, none, some (.iload_n 3, 0, 0, 0), some (.invokestatic 311, 95, 1, 0), none, none, some (.ifCond .eq 24, 47, 0, 0), none, none, some (.iload 4, 0, 0, 0), none, some (.invokestatic 311, 95, 1, 0), none, none, some (.ifCond .eq 16, 47, 0, 0)],
  [none, none, some (.iload_n 3, 0, 0, 0), some (.bipush (-9), 0, 0, (-9)), none, some (.if_icmp .ne 12, 49, 0, 0), none, none, some (.iload 4, 0, 0, 0), none, some (.bipush (-9), 0, 0, (-9)), none, some (.if_icmp .eq 5, 49, 0, 0), none, none, some (.iconst (-1), 0, 0, (-1))],
  [some (.ireturn, 0, 0, 0), some (.iload_n 3, 0, 0, 0), some (.bipush (-9), 0, 0, (-9)), none, some (.if_icmp .ne 10, 62, 0, 0), none, none, some (.aload 5, 0, 0, 0), none, some (.iload_n 2, 0, 0, 0), some (.invokevirtual 314, 96, 2, 0), none, none, some (.ireturn, 0, 0, 0), some (.iload 4, 0, 0, 0), none],
  [some (.bipush (-9), 0, 0, (-9)), none, some (.if_icmp .ne 12, 78, 0, 0), none, none, some (.aload_n 0, 0, 0, 0), some (.aload 5, 0, 0, 0), none, some (.iload_n 2, 0, 0, 0), some (.iload_n 3, 0, 0, 0), some (.invokevirtual 317, 97, 4, 0), none, none, some (.ireturn, 0, 0, 0), some (.aload_n 0, 0, 0, 0), some (.aload 5, 0, 0, 0)],
  [none, some (.iload_n 2, 0, 0, 0), some (.iload_n 3, 0, 0, 0), some (.iload 4, 0, 0, 0), none, some (.invokevirtual 321, 99, 5, 0), none, none, some (.ireturn, 0, 0, 0), none, none, none, none, none, none, none]])
def xm95 : XM := (yX9_isBoatOrNone, cX9_isBoatOrNone, 1, (some .boolean), 1, 20, 0, 0, 9, [[some (.iload_n 0, 0, 0, 0), some (.bipush (-9), 0, 0, (-9)), none, some (.if_icmp .eq 10, 13, 0, 0), none, none, some (.iload_n 0, 0, 0, 0), some (.invokestatic 305, 39, 1, 0), none, none, some (.ifCond .eq 7, 17, 0, 0), none, none, some (.iconst 1, 0, 0, 1), some (.goto 4, 18, 0, 0), none],
  [none, some (.iconst 0, 0, 0, 0), some (.ireturn, 0, 0, 0), none, none, none, none, none, none, none, none, none, none, none, none, none]])
def xm96 : XM := (yX8_knownBy, cX8_knownBy, 2, (some .int), 0, 0, 0, 0, 8, [[some (.iload_n 1, 0, 0, 0), some (.aload_n 0, 0, 0, 0), some (.getfield 22, 8, 1, 0), none, none, some (.if_icmp .ne 8, 13, 0, 0), none, none, some (.aload_n 0, 0, 0, 0), some (.getfield 25, 8, 2, 0), none, none, some (.ireturn, 0, 0, 0), some (.aload_n 0, 0, 0, 0), some (.getfield 15, 8, 6, 0), none],
  [none, some (.iload_n 1, 0, 0, 0), some (.iaload, 0, 0, 0), some (.ifCond .lt 12, 31, 0, 0), none, none, some (.aload_n 0, 0, 0, 0), some (.getfield 15, 8, 6, 0), none, none, some (.iload_n 1, 0, 0, 0), some (.iaload, 0, 0, 0), some (.goto 5, 33, 0, 0), none, none, some (.bipush (-9), 0, 0, (-9))],
  [none, some (.ireturn, 0, 0, 0), none, none, none, none, none, none, none, none, none, none, none, none, none, none]])
def xm97 : XM := (yX9_knownOf, cX9_knownOf, 5, (some .int), 1, 27, 0, 0, 9, [[some (.aload_n 1, 0, 0, 0), some (.iload_n 3, 0, 0, 0), some (.invokevirtual 314, 96, 2, 0), none, none, some (.istore 4, 0, 0, 0), none, some (.iload_n 2, 0, 0, 0), some (.iload_n 3, 0, 0, 0), some (.if_icmp .ne 8, 17, 0, 0), none, none, some (.iload 4, 0, 0, 0), none, some (.goto 11, 25, 0, 0), none],
  [none, some (.aload_n 0, 0, 0, 0), some (.iload_n 2, 0, 0, 0), some (.iload_n 3, 0, 0, 0), some (.iload 4, 0, 0, 0), none, some (.invokevirtual 513, 98, 4, 0), none, none, some (.ireturn, 0, 0, 0), none, none, none, none, none, none]])
def xm98 : XM := (yX9_firstHeardFrom, cX9_firstHeardFrom, 8, (some .int), 0, 0, 0, 0, 9, [[some (.bipush (-9), 0, 0, (-9)), none, some (.istore 4, 0, 0, 0), none, some (.iload_n 3, 0, 0, 0), some (.bipush (-9), 0, 0, (-9)), none, some (.if_icmp .ne 6, 13, 0, 0), none, none, some (.iload 4, 0, 0, 0), none, some (.ireturn, 0, 0, 0), some (.iconst 0, 0, 0, 0), some (.istore 5, 0, 0, 0), none],
  [some (.iload 5, 0, 0, 0), none, some (.aload_n 0, 0, 0, 0), some (.getfield 267, 9, 10, 0), none, none, some (.if_icmp .ge 68, 90, 0, 0), none, none, some (.aload_n 0, 0, 0, 0), some (.getfield 33, 9, 4, 0), none, none, some (.iload 5, 0, 0, 0), none, some (.aaload, 0, 0, 0)],
  [some (.astore 6, 0, 0, 0), none, some (.aload 6, 0, 0, 0), none, some (.getfield 308, 8, 6, 0), none, none, some (.iload_n 1, 0, 0, 0), some (.iaload, 0, 0, 0), some (.istore 7, 0, 0, 0), none, some (.aload 6, 0, 0, 0), none, some (.getfield 299, 8, 1, 0), none, none],
  [some (.iload_n 2, 0, 0, 0), some (.if_icmp .ne 35, 84, 0, 0), none, none, some (.aload 6, 0, 0, 0), none, some (.getfield 503, 8, 2, 0), none, none, some (.iload_n 3, 0, 0, 0), some (.if_icmp .lt 26, 84, 0, 0), none, none, some (.iload 7, 0, 0, 0), none, some (.ifCond .lt 21, 84, 0, 0)],
  [none, none, some (.iload 4, 0, 0, 0), none, some (.bipush (-9), 0, 0, (-9)), none, some (.if_icmp .eq 10, 80, 0, 0), none, none, some (.iload 7, 0, 0, 0), none, some (.iload 4, 0, 0, 0), none, some (.if_icmp .ge 7, 84, 0, 0), none, none],
  [some (.iload 7, 0, 0, 0), none, some (.istore 4, 0, 0, 0), none, some (.iinc 5 1, 0, 0, 1), none, none, some (.goto (-71), 16, 0, 0), none, none, some (.iload 4, 0, 0, 0), none, some (.ireturn, 0, 0, 0), none, none, none]])
def xm99 : XM := (yX9_knownOfKnown, cX9_knownOfKnown, 6, (some .int), 2, 51, 0, 0, 9, [[some (.aload_n 0, 0, 0, 0), some (.aload_n 1, 0, 0, 0), some (.iload_n 3, 0, 0, 0), some (.iload 4, 0, 0, 0), none, some (.invokevirtual 317, 97, 4, 0), none, none, some (.istore 5, 0, 0, 0), none, some (.iload_n 2, 0, 0, 0), some (.iload_n 3, 0, 0, 0), some (.if_icmp .ne 8, 20, 0, 0), none, none, some (.iload 5, 0, 0, 0)],
  [none, some (.goto 11, 28, 0, 0), none, none, some (.aload_n 0, 0, 0, 0), some (.iload_n 2, 0, 0, 0), some (.iload_n 3, 0, 0, 0), some (.iload 5, 0, 0, 0), none, some (.invokevirtual 513, 98, 4, 0), none, none, some (.ireturn, 0, 0, 0), none, none, none]])
def xm100 : XM := (yX9_allKnow, cX9_allKnow, 8, (some .int), 4, 102, 0, 0, 9, [[some (.aload_n 0, 0, 0, 0), some (.iload_n 1, 0, 0, 0), some (.invokevirtual 277, 88, 2, 0), none, none, some (.astore 4, 0, 0, 0), none, some (.aload 4, 0, 0, 0), none, some (.ifnull 24, 33, 0, 0), none, none, some (.iload_n 2, 0, 0, 0), some (.iconst 1, 0, 0, 1), some (.if_icmp .lt 19, 33, 0, 0), none],
  [none, some (.iload_n 2, 0, 0, 0), some (.bipush 63, 0, 0, 63), none, some (.if_icmp .gt 13, 33, 0, 0), none, none, some (.iload_n 3, 0, 0, 0), some (.iconst 1, 0, 0, 1), some (.if_icmp .lt 8, 33, 0, 0), none, none, some (.iload_n 3, 0, 0, 0), some (.iconst 3, 0, 0, 3), some (.if_icmp .le 5, 35, 0, 0), none],
  [none, some (.iconst (-1), 0, 0, (-1)), some (.ireturn, 0, 0, 0), some (.iconst 0, 0, 0, 0), some (.istore 5, 0, 0, 0), none, some (.iconst 0, 0, 0, 0), some (.istore 6, 0, 0, 0), none, some (.iload 6, 0, 0, 0), none, some (.bipush 6, 0, 0, 6), none, some (.if_icmp .ge 53, 98, 0, 0), none, none],
  [some (.iload_n 2, 0, 0, 0), some (.i2l, 0, 0, 0), some (.iload 6, 0, 0, 0), none, some (.invokestatic 325, 26, 2, 0), none, none, some (.ifCond .ne 6, 61, 0, 0), none, none, some (.goto 34, 92, 0, 0), none, none, some (.aload_n 0, 0, 0, 0), some (.aload 4, 0, 0, 0), none],
  [some (.iload 6, 0, 0, 0), none, some (.iload_n 2, 0, 0, 0), some (.iload_n 3, 0, 0, 0), some (.invokevirtual 329, 101, 5, 0), none, none, some (.istore 7, 0, 0, 0), none, some (.iload 7, 0, 0, 0), none, some (.bipush (-9), 0, 0, (-9)), none, some (.if_icmp .ne 6, 83, 0, 0), none, none],
  [some (.bipush (-9), 0, 0, (-9)), none, some (.ireturn, 0, 0, 0), some (.iload 5, 0, 0, 0), none, some (.iload 7, 0, 0, 0), none, some (.invokestatic 332, 7000, 2, 0), none, none, some (.istore 5, 0, 0, 0), none, some (.iinc 6 1, 0, 0, 1), none, none, some (.goto (-54), 41, 0, 0)],
  [none, none, some (.iload 5, 0, 0, 0), none, some (.ireturn, 0, 0, 0), none, none, none, none, none, none, none, none, none, none, none]])
def xm101 : XM := (yX9_knownOfAll, cX9_knownOfAll, 7, (some .int), 3, 76, 0, 0, 9, [[some (.aload_n 1, 0, 0, 0), some (.iload_n 2, 0, 0, 0), some (.invokevirtual 314, 96, 2, 0), none, none, some (.istore 5, 0, 0, 0), none, some (.iconst 0, 0, 0, 0), some (.istore 6, 0, 0, 0), none, some (.iload 6, 0, 0, 0), none, some (.bipush 6, 0, 0, 6), none, some (.if_icmp .ge 47, 61, 0, 0), none],
  [none, some (.iload 4, 0, 0, 0), none, some (.iconst 1, 0, 0, 1), some (.if_icmp .le 41, 61, 0, 0), none, none, some (.iload 5, 0, 0, 0), none, some (.bipush (-9), 0, 0, (-9)), none, some (.if_icmp .eq 34, 61, 0, 0), none, none, some (.iload_n 3, 0, 0, 0), some (.i2l, 0, 0, 0)],
  [some (.iload 6, 0, 0, 0), none, some (.invokestatic 325, 26, 2, 0), none, none, some (.ifCond .eq 18, 55, 0, 0), none, none, some (.iload 5, 0, 0, 0), none, some (.aload_n 0, 0, 0, 0), some (.aload_n 1, 0, 0, 0), some (.iload_n 2, 0, 0, 0), some (.iload 6, 0, 0, 0), none, some (.invokevirtual 317, 97, 4, 0)],
  [none, none, some (.invokestatic 516, 102, 2, 0), none, none, some (.istore 5, 0, 0, 0), none, some (.iinc 6 1, 0, 0, 1), none, none, some (.goto (-48), 10, 0, 0), none, none, some (.iconst 0, 0, 0, 0), some (.istore 6, 0, 0, 0), none],
  [some (.iload 6, 0, 0, 0), none, some (.bipush 36, 0, 0, 36), none, some (.if_icmp .ge 71, 139, 0, 0), none, none, some (.iload 4, 0, 0, 0), none, some (.iconst 2, 0, 0, 2), some (.if_icmp .le 65, 139, 0, 0), none, none, some (.iload 5, 0, 0, 0), none, some (.bipush (-9), 0, 0, (-9))],
  [none, some (.if_icmp .eq 58, 139, 0, 0), none, none, some (.iload_n 3, 0, 0, 0), some (.i2l, 0, 0, 0), some (.iload 6, 0, 0, 0), none, some (.bipush 6, 0, 0, 6), none, some (.idiv, 0, 0, 0), some (.invokestatic 325, 26, 2, 0), none, none, some (.ifCond .eq 39, 133, 0, 0), none],
  [none, some (.iload_n 3, 0, 0, 0), some (.i2l, 0, 0, 0), some (.iload 6, 0, 0, 0), none, some (.bipush 6, 0, 0, 6), none, some (.irem, 0, 0, 0), some (.invokestatic 325, 26, 2, 0), none, none, some (.ifCond .eq 26, 133, 0, 0), none, none, some (.iload 5, 0, 0, 0), none],
  [some (.aload_n 0, 0, 0, 0), some (.aload_n 1, 0, 0, 0), some (.iload_n 2, 0, 0, 0), some (.iload 6, 0, 0, 0), none, some (.bipush 6, 0, 0, 6), none, some (.idiv, 0, 0, 0), some (.iload 6, 0, 0, 0), none, some (.bipush 6, 0, 0, 6), none, some (.irem, 0, 0, 0), some (.invokevirtual 321, 99, 5, 0), none, none],
  [some (.invokestatic 516, 102, 2, 0), none, none, some (.istore 5, 0, 0, 0), none, some (.iinc 6 1, 0, 0, 1), none, none, some (.goto (-72), 64, 0, 0), none, none, some (.iload 5, 0, 0, 0), none, some (.ireturn, 0, 0, 0), none, none]])
def xm102 : XM := (yX9_laterOrNone, cX9_laterOrNone, 2, (some .int), 1, 40, 0, 0, 9, [[some (.iload_n 0, 0, 0, 0), some (.bipush (-9), 0, 0, (-9)), none, some (.if_icmp .eq 9, 12, 0, 0), none, none, some (.iload_n 1, 0, 0, 0), some (.bipush (-9), 0, 0, (-9)), none, some (.if_icmp .ne 8, 17, 0, 0), none, none, some (.bipush (-9), 0, 0, (-9)), none, some (.goto 8, 22, 0, 0), none],
  [none, some (.iload_n 0, 0, 0, 0), some (.iload_n 1, 0, 0, 0), some (.invokestatic 332, 7000, 2, 0), none, none, some (.ireturn, 0, 0, 0), none, none, none, none, none, none, none, none, none]])
def xm103 : XM := (yX9_fault, cX9_fault, 3, (some .int), 2, 49, 0, 0, 9, [[some (.aload_n 0, 0, 0, 0), some (.iload_n 1, 0, 0, 0), some (.invokevirtual 113, 20, 2, 0), none, none, some (.astore_n 2, 0, 0, 0), some (.aload_n 2, 0, 0, 0), some (.ifnonnull 5, 12, 0, 0), none, none, some (.iconst (-1), 0, 0, (-1)), some (.ireturn, 0, 0, 0), some (.aload_n 2, 0, 0, 0), some (.invokevirtual 90, 13, 1, 0), none, none],
  [some (.ifCond .eq 9, 25, 0, 0), none, none, some (.aload_n 0, 0, 0, 0), some (.iconst 1, 0, 0, 1), some (.invokevirtual 82, 10, 2, 0), none, none, some (.ireturn, 0, 0, 0), some (.aload_n 0, 0, 0, 0), some (.getfield 46, 9, 6, 0), none, none, some (.aload_n 2, 0, 0, 0), some (.invokevirtual 337, 104, 2, 0), none],
  [none, some (.ireturn, 0, 0, 0), none, none, none, none, none, none, none, none, none, none, none, none, none, none]])
def xm104 : XM := (yX5_readRules, cX5_readRules, 6, (some .int), 1, 24, 0, 0, 5, [[some (.iconst 0, 0, 0, 0), some (.istore_n 2, 0, 0, 0), some (.iload_n 2, 0, 0, 0), some (.iconst 4, 0, 0, 4), some (.if_icmp .ge 17, 21, 0, 0), none, none, some (.aload_n 0, 0, 0, 0), some (.getfield 9, 5, 0, 0), none, none, some (.iload_n 2, 0, 0, 0), some (.bipush (-9), 0, 0, (-9)), none, some (.iastore, 0, 0, 0), some (.iinc 2 1, 0, 0, 1)],
  [none, none, some (.goto (-16), 2, 0, 0), none, none, some (.iconst 0, 0, 0, 0), some (.istore_n 2, 0, 0, 0), some (.iload_n 2, 0, 0, 0), some (.aload_n 1, 0, 0, 0), some (.getfield 15, 4, 1, 0), none, none, some (.if_icmp .ge 101, 129, 0, 0), none, none, some (.aload_n 1, 0, 0, 0)],
  [some (.getfield 21, 4, 0, 0), none, none, some (.iload_n 2, 0, 0, 0), some (.iaload, 0, 0, 0), some (.bipush 32, 0, 0, 32), none, some (.if_icmp .ne 9, 48, 0, 0), none, none, some (.iinc 2 1, 0, 0, 1), none, none, some (.goto (-22), 23, 0, 0), none, none],
  [some (.aload_n 1, 0, 0, 0), some (.getfield 21, 4, 0, 0), none, none, some (.iload_n 2, 0, 0, 0), some (.iaload, 0, 0, 0), some (.invokestatic 24, 105, 1, 0), none, none, some (.istore_n 3, 0, 0, 0), some (.iload_n 3, 0, 0, 0), some (.bipush (-9), 0, 0, (-9)), none, some (.if_icmp .ne 5, 66, 0, 0), none, none],
  [some (.iload_n 2, 0, 0, 0), some (.ireturn, 0, 0, 0), some (.aload_n 1, 0, 0, 0), some (.iload_n 2, 0, 0, 0), some (.iconst 1, 0, 0, 1), some (.iadd, 0, 0, 0), some (.invokestatic 28, 106, 2, 0), none, none, some (.istore 4, 0, 0, 0), none, some (.iload 4, 0, 0, 0), none, some (.iload_n 2, 0, 0, 0), some (.iconst 1, 0, 0, 1), some (.iadd, 0, 0, 0)],
  [some (.if_icmp .ne 6, 86, 0, 0), none, none, some (.iload 4, 0, 0, 0), none, some (.ireturn, 0, 0, 0), some (.aload_n 1, 0, 0, 0), some (.iload_n 2, 0, 0, 0), some (.iconst 1, 0, 0, 1), some (.iadd, 0, 0, 0), some (.iload 4, 0, 0, 0), none, some (.invokestatic 32, 107, 3, 0), none, none, some (.istore 5, 0, 0, 0)],
  [none, some (.iload 5, 0, 0, 0), none, some (.ifCond .ne 16, 115, 0, 0), none, none, some (.iload_n 3, 0, 0, 0), some (.iconst 2, 0, 0, 2), some (.if_icmp .eq 8, 112, 0, 0), none, none, some (.iload_n 3, 0, 0, 0), some (.iconst 3, 0, 0, 3), some (.if_icmp .ne 6, 115, 0, 0), none, none],
  [some (.iload 4, 0, 0, 0), none, some (.ireturn, 0, 0, 0), some (.aload_n 0, 0, 0, 0), some (.getfield 9, 5, 0, 0), none, none, some (.iload_n 3, 0, 0, 0), some (.iload 5, 0, 0, 0), none, some (.iastore, 0, 0, 0), some (.iload 4, 0, 0, 0), none, some (.istore_n 2, 0, 0, 0), some (.goto (-103), 23, 0, 0), none],
  [none, some (.bipush (-9), 0, 0, (-9)), none, some (.ireturn, 0, 0, 0), none, none, none, none, none, none, none, none, none, none, none, none]])
def xm105 : XM := (yX5_letterOf, cX5_letterOf, 2, (some .int), 0, 0, 0, 0, 5, [[some (.iconst 0, 0, 0, 0), some (.istore_n 1, 0, 0, 0), some (.iload_n 1, 0, 0, 0), some (.iconst 4, 0, 0, 4), some (.if_icmp .ge 20, 24, 0, 0), none, none, some (.getstatic 36, 4, 0, 0), none, none, some (.iload_n 1, 0, 0, 0), some (.iaload, 0, 0, 0), some (.iload_n 0, 0, 0, 0), some (.if_icmp .ne 5, 18, 0, 0), none, none],
  [some (.iload_n 1, 0, 0, 0), some (.ireturn, 0, 0, 0), some (.iinc 1 1, 0, 0, 1), none, none, some (.goto (-19), 2, 0, 0), none, none, some (.bipush (-9), 0, 0, (-9)), none, some (.ireturn, 0, 0, 0), none, none, none, none, none]])
def xm106 : XM := (yX5_endOfDigits, cX5_endOfDigits, 3, (some .int), 0, 0, 0, 0, 5, [[some (.iload_n 1, 0, 0, 0), some (.istore_n 2, 0, 0, 0), some (.iload_n 2, 0, 0, 0), some (.aload_n 0, 0, 0, 0), some (.getfield 15, 4, 1, 0), none, none, some (.if_icmp .ge 38, 45, 0, 0), none, none, some (.iload_n 2, 0, 0, 0), some (.iload_n 1, 0, 0, 0), some (.iconst 3, 0, 0, 3), some (.iadd, 0, 0, 0), some (.if_icmp .ge 31, 45, 0, 0), none],
  [none, some (.aload_n 0, 0, 0, 0), some (.getfield 21, 4, 0, 0), none, none, some (.iload_n 2, 0, 0, 0), some (.iaload, 0, 0, 0), some (.bipush 48, 0, 0, 48), none, some (.if_icmp .lt 20, 45, 0, 0), none, none, some (.aload_n 0, 0, 0, 0), some (.getfield 21, 4, 0, 0), none, none],
  [some (.iload_n 2, 0, 0, 0), some (.iaload, 0, 0, 0), some (.bipush 57, 0, 0, 57), none, some (.if_icmp .gt 9, 45, 0, 0), none, none, some (.iinc 2 1, 0, 0, 1), none, none, some (.goto (-40), 2, 0, 0), none, none, some (.iload_n 2, 0, 0, 0), some (.ireturn, 0, 0, 0), none]])
def xm107 : XM := (yX5_numberIn, cX5_numberIn, 5, (some .int), 0, 0, 0, 0, 5, [[some (.iconst 0, 0, 0, 0), some (.istore_n 3, 0, 0, 0), some (.iload_n 1, 0, 0, 0), some (.istore 4, 0, 0, 0), none, some (.iload 4, 0, 0, 0), none, some (.iload_n 2, 0, 0, 0), some (.if_icmp .ge 25, 33, 0, 0), none, none, some (.bipush 10, 0, 0, 10), none, some (.iload_n 3, 0, 0, 0), some (.imul, 0, 0, 0), some (.aload_n 0, 0, 0, 0)],
  [some (.getfield 21, 4, 0, 0), none, none, some (.iload 4, 0, 0, 0), none, some (.iaload, 0, 0, 0), some (.iadd, 0, 0, 0), some (.bipush 48, 0, 0, 48), none, some (.isub, 0, 0, 0), some (.istore_n 3, 0, 0, 0), some (.iinc 4 1, 0, 0, 1), none, none, some (.goto (-25), 5, 0, 0), none],
  [none, some (.iload_n 3, 0, 0, 0), some (.ireturn, 0, 0, 0), none, none, none, none, none, none, none, none, none, none, none, none, none]])
def xm108 : XM := (yX9_rules, cX9_rules, 7, (some .int), 2, 49, 0, 0, 9, [[some (.aload_n 0, 0, 0, 0), some (.iload_n 1, 0, 0, 0), some (.invokevirtual 155, 38, 2, 0), none, none, some (.astore_n 3, 0, 0, 0), some (.aload_n 0, 0, 0, 0), some (.iload_n 2, 0, 0, 0), some (.invokevirtual 113, 20, 2, 0), none, none, some (.astore 4, 0, 0, 0), none, some (.aload_n 3, 0, 0, 0), some (.ifnull 8, 22, 0, 0), none],
  [none, some (.aload 4, 0, 0, 0), none, some (.ifnonnull 5, 24, 0, 0), none, none, some (.iconst (-1), 0, 0, (-1)), some (.ireturn, 0, 0, 0), some (.aload 4, 0, 0, 0), none, some (.invokevirtual 90, 13, 1, 0), none, none, some (.ifCond .eq 9, 38, 0, 0), none, none],
  [some (.aload_n 0, 0, 0, 0), some (.iconst 1, 0, 0, 1), some (.invokevirtual 82, 10, 2, 0), none, none, some (.ireturn, 0, 0, 0), some (.aload_n 0, 0, 0, 0), some (.getfield 46, 9, 6, 0), none, none, some (.aload 4, 0, 0, 0), none, some (.invokevirtual 337, 104, 2, 0), none, none, some (.bipush (-9), 0, 0, (-9))],
  [none, some (.if_icmp .eq 6, 55, 0, 0), none, none, some (.bipush (-4), 0, 0, (-4)), none, some (.ireturn, 0, 0, 0), some (.iconst 0, 0, 0, 0), some (.istore 5, 0, 0, 0), none, some (.iconst 0, 0, 0, 0), some (.istore 6, 0, 0, 0), none, some (.iload 6, 0, 0, 0), none, some (.iconst 4, 0, 0, 4)],
  [some (.if_icmp .ge 48, 112, 0, 0), none, none, some (.aload_n 3, 0, 0, 0), some (.getfield 341, 0, 0, 0), none, none, some (.iload 6, 0, 0, 0), none, some (.aload_n 0, 0, 0, 0), some (.getfield 46, 9, 6, 0), none, none, some (.getfield 344, 5, 0, 0), none, none],
  [some (.iload 6, 0, 0, 0), none, some (.iaload, 0, 0, 0), some (.iastore, 0, 0, 0), some (.iload 5, 0, 0, 0), none, some (.aload_n 3, 0, 0, 0), some (.getfield 341, 0, 0, 0), none, none, some (.iload 6, 0, 0, 0), none, some (.iaload, 0, 0, 0), some (.bipush (-9), 0, 0, (-9)), none, some (.if_icmp .ne 7, 102, 0, 0)],
  [none, none, some (.iconst 0, 0, 0, 0), some (.goto 4, 103, 0, 0), none, none, some (.iconst 1, 0, 0, 1), some (.iadd, 0, 0, 0), some (.istore 5, 0, 0, 0), none, some (.iinc 6 1, 0, 0, 1), none, none, some (.goto (-48), 61, 0, 0), none, none],
  [some (.iload 5, 0, 0, 0), none, some (.ireturn, 0, 0, 0), none, none, none, none, none, none, none, none, none, none, none, none, none]])
def xm109 : XM := (yX9_rule, cX9_rule, 4, (some .int), 2, 41, 0, 0, 9, [[some (.aload_n 0, 0, 0, 0), some (.iload_n 1, 0, 0, 0), some (.invokevirtual 155, 38, 2, 0), none, none, some (.astore_n 3, 0, 0, 0), some (.aload_n 3, 0, 0, 0), some (.ifnull 12, 19, 0, 0), none, none, some (.iload_n 2, 0, 0, 0), some (.ifCond .lt 8, 19, 0, 0), none, none, some (.iload_n 2, 0, 0, 0), some (.iconst 4, 0, 0, 4)],
  [some (.if_icmp .lt 5, 21, 0, 0), none, none, some (.iconst (-1), 0, 0, (-1)), some (.ireturn, 0, 0, 0), some (.aload_n 3, 0, 0, 0), some (.getfield 341, 0, 0, 0), none, none, some (.iload_n 2, 0, 0, 0), some (.iaload, 0, 0, 0), some (.ireturn, 0, 0, 0), none, none, none, none]])
def xm110 : XM := (yX9_asks, cX9_asks, 5, (some .int), 4, 91, 0, 0, 9, [[some (.aload_n 0, 0, 0, 0), some (.iload_n 1, 0, 0, 0), some (.invokevirtual 155, 38, 2, 0), none, none, some (.astore_n 2, 0, 0, 0), some (.aload_n 2, 0, 0, 0), some (.ifnonnull 5, 12, 0, 0), none, none, some (.iconst (-1), 0, 0, (-1)), some (.ireturn, 0, 0, 0), some (.aload_n 2, 0, 0, 0), some (.invokevirtual 198, 50, 1, 0), none, none],
  [some (.ifCond .ne 6, 22, 0, 0), none, none, some (.bipush (-4), 0, 0, (-4)), none, some (.ireturn, 0, 0, 0), some (.aload_n 2, 0, 0, 0), some (.getfield 191, 0, 4, 0), none, none, some (.invokestatic 347, 68, 1, 0), none, none, some (.istore_n 3, 0, 0, 0), some (.aload_n 2, 0, 0, 0), some (.getfield 341, 0, 0, 0)],
  [none, none, some (.iconst 0, 0, 0, 0), some (.iaload, 0, 0, 0), some (.istore 4, 0, 0, 0), none, some (.iload 4, 0, 0, 0), none, some (.bipush (-9), 0, 0, (-9)), none, some (.if_icmp .eq 45, 87, 0, 0), none, none, some (.aload_n 2, 0, 0, 0), some (.getfield 185, 0, 3, 0), none],
  [none, some (.iload 4, 0, 0, 0), none, some (.iconst 2, 0, 0, 2), some (.iload_n 3, 0, 0, 0), some (.aload_n 0, 0, 0, 0), some (.getfield 21, 9, 2, 0), none, none, some (.getfield 120, 6, 7, 0), none, none, some (.invokestatic 302, 70, 2, 0), none, none, some (.imul, 0, 0, 0)],
  [some (.iadd, 0, 0, 0), some (.if_icmp .gt 22, 87, 0, 0), none, none, some (.bipush 10, 0, 0, 10), none, some (.aload_n 0, 0, 0, 0), some (.getfield 21, 9, 2, 0), none, none, some (.iload_n 3, 0, 0, 0), some (.aload_n 0, 0, 0, 0), some (.getfield 21, 9, 2, 0), none, none, some (.getfield 120, 6, 7, 0)],
  [none, none, some (.invokevirtual 350, 69, 3, 0), none, none, some (.iadd, 0, 0, 0), some (.ireturn, 0, 0, 0), some (.aload_n 0, 0, 0, 0), some (.aload_n 2, 0, 0, 0), some (.getfield 341, 0, 0, 0), none, none, some (.iconst 2, 0, 0, 2), some (.iaload, 0, 0, 0), some (.invokevirtual 353, 111, 2, 0), none],
  [none, some (.ifCond .eq 5, 102, 0, 0), none, none, some (.iconst 2, 0, 0, 2), some (.ireturn, 0, 0, 0), some (.aload_n 0, 0, 0, 0), some (.aload_n 2, 0, 0, 0), some (.getfield 341, 0, 0, 0), none, none, some (.iconst 3, 0, 0, 3), some (.iaload, 0, 0, 0), some (.invokevirtual 353, 111, 2, 0), none, none],
  [some (.ifCond .eq 7, 119, 0, 0), none, none, some (.iconst 3, 0, 0, 3), some (.goto 4, 120, 0, 0), none, none, some (.iconst 0, 0, 0, 0), some (.ireturn, 0, 0, 0), none, none, none, none, none, none, none]])
def xm111 : XM := (yX9_isDueNow, cX9_isDueNow, 2, (some .boolean), 0, 0, 0, 0, 9, [[some (.iload_n 1, 0, 0, 0), some (.ifCond .le 16, 17, 0, 0), none, none, some (.aload_n 0, 0, 0, 0), some (.getfield 159, 9, 12, 0), none, none, some (.iload_n 1, 0, 0, 0), some (.irem, 0, 0, 0), some (.ifCond .ne 7, 17, 0, 0), none, none, some (.iconst 1, 0, 0, 1), some (.goto 4, 18, 0, 0), none],
  [none, some (.iconst 0, 0, 0, 0), some (.ireturn, 0, 0, 0), none, none, none, none, none, none, none, none, none, none, none, none, none]])
def xm112 : XM := (yX9_shifts, cX9_shifts, 10, (some .int), 2, 41, 0, 0, 9, [[some (.aload_n 0, 0, 0, 0), some (.iload_n 1, 0, 0, 0), some (.invokevirtual 78, 9, 2, 0), none, none, some (.astore 4, 0, 0, 0), none, some (.aload_n 0, 0, 0, 0), some (.iload_n 2, 0, 0, 0), some (.invokevirtual 78, 9, 2, 0), none, none, some (.astore 5, 0, 0, 0), none, some (.aload 4, 0, 0, 0), none],
  [some (.ifnull 19, 35, 0, 0), none, none, some (.aload 5, 0, 0, 0), none, some (.ifnull 14, 35, 0, 0), none, none, some (.iload_n 3, 0, 0, 0), some (.iconst 1, 0, 0, 1), some (.if_icmp .lt 9, 35, 0, 0), none, none, some (.iload_n 3, 0, 0, 0), some (.bipush 16, 0, 0, 16), none],
  [some (.if_icmp .le 5, 37, 0, 0), none, none, some (.iconst (-1), 0, 0, (-1)), some (.ireturn, 0, 0, 0), some (.aload 4, 0, 0, 0), none, some (.invokevirtual 90, 13, 1, 0), none, none, some (.ifCond .ne 11, 53, 0, 0), none, none, some (.aload 5, 0, 0, 0), none, some (.invokevirtual 90, 13, 1, 0)],
  [none, none, some (.ifCond .eq 9, 59, 0, 0), none, none, some (.aload_n 0, 0, 0, 0), some (.iconst 1, 0, 0, 1), some (.invokevirtual 82, 10, 2, 0), none, none, some (.ireturn, 0, 0, 0), some (.aload 4, 0, 0, 0), none, some (.getfield 104, 4, 1, 0), none, none],
  [some (.bipush 16, 0, 0, 16), none, some (.if_icmp .ne 13, 79, 0, 0), none, none, some (.aload 5, 0, 0, 0), none, some (.getfield 104, 4, 1, 0), none, none, some (.bipush 16, 0, 0, 16), none, some (.if_icmp .eq 9, 85, 0, 0), none, none, some (.aload_n 0, 0, 0, 0)],
  [some (.iconst 5, 0, 0, 5), some (.invokevirtual 82, 10, 2, 0), none, none, some (.ireturn, 0, 0, 0), some (.aload 4, 0, 0, 0), none, some (.invokestatic 356, 113, 1, 0), none, none, some (.ifCond .eq 11, 101, 0, 0), none, none, some (.aload 5, 0, 0, 0), none, some (.invokestatic 356, 113, 1, 0)],
  [none, none, some (.ifCond .ne 9, 107, 0, 0), none, none, some (.aload_n 0, 0, 0, 0), some (.iconst 3, 0, 0, 3), some (.invokevirtual 82, 10, 2, 0), none, none, some (.ireturn, 0, 0, 0), some (.iconst 0, 0, 0, 0), some (.istore 6, 0, 0, 0), none, some (.iconst 0, 0, 0, 0), some (.istore 7, 0, 0, 0)],
  [none, some (.bipush (-3), 0, 0, (-3)), none, some (.istore 8, 0, 0, 0), none, some (.iload 8, 0, 0, 0), none, some (.iconst 3, 0, 0, 3), some (.if_icmp .gt 65, 185, 0, 0), none, none, some (.bipush (-3), 0, 0, (-3)), none, some (.istore 9, 0, 0, 0), none, some (.iload 9, 0, 0, 0)],
  [none, some (.iconst 3, 0, 0, 3), some (.if_icmp .gt 49, 179, 0, 0), none, none, some (.aload 4, 0, 0, 0), none, some (.aload 5, 0, 0, 0), none, some (.iload 9, 0, 0, 0), none, some (.iload 8, 0, 0, 0), none, some (.invokestatic 360, 114, 4, 0), none, none],
  [some (.iload_n 3, 0, 0, 0), some (.if_icmp .ge 6, 151, 0, 0), none, none, some (.goto 25, 173, 0, 0), none, none, some (.iload 6, 0, 0, 0), none, some (.ifCond .ne 17, 170, 0, 0), none, none, some (.bipush 10, 0, 0, 10), none, some (.iload 9, 0, 0, 0), none],
  [some (.iconst 3, 0, 0, 3), some (.iadd, 0, 0, 0), some (.imul, 0, 0, 0), some (.iload 8, 0, 0, 0), none, some (.iadd, 0, 0, 0), some (.iconst 3, 0, 0, 3), some (.iadd, 0, 0, 0), some (.istore 7, 0, 0, 0), none, some (.iinc 6 1, 0, 0, 1), none, none, some (.iinc 9 1, 0, 0, 1), none, none],
  [some (.goto (-49), 127, 0, 0), none, none, some (.iinc 8 1, 0, 0, 1), none, none, some (.goto (-65), 117, 0, 0), none, none, some (.aload_n 0, 0, 0, 0), some (.iload 7, 0, 0, 0), none, some (.putfield 364, 9, 15, 0), none, none, some (.iload 6, 0, 0, 0)],
  [none, some (.ireturn, 0, 0, 0), none, none, none, none, none, none, none, none, none, none, none, none, none, none]])
def xm113 : XM := (yX9_isMap, cX9_isMap, 2, (some .boolean), 1, 20, 0, 0, 9, [[some (.iconst 0, 0, 0, 0), some (.istore_n 1, 0, 0, 0), some (.iload_n 1, 0, 0, 0), some (.aload_n 0, 0, 0, 0), some (.getfield 104, 4, 1, 0), none, none, some (.if_icmp .ge 34, 41, 0, 0), none, none, some (.aload_n 0, 0, 0, 0), some (.getfield 98, 4, 0, 0), none, none, some (.iload_n 1, 0, 0, 0), some (.iaload, 0, 0, 0)],
  [some (.bipush (-9), 0, 0, (-9)), none, some (.if_icmp .eq 17, 35, 0, 0), none, none, some (.aload_n 0, 0, 0, 0), some (.getfield 98, 4, 0, 0), none, none, some (.iload_n 1, 0, 0, 0), some (.iaload, 0, 0, 0), some (.invokestatic 136, 30, 1, 0), none, none, some (.ifCond .ne 5, 35, 0, 0), none],
  [none, some (.iconst 0, 0, 0, 0), some (.ireturn, 0, 0, 0), some (.iinc 1 1, 0, 0, 1), none, none, some (.goto (-36), 2, 0, 0), none, none, some (.iconst 1, 0, 0, 1), some (.ireturn, 0, 0, 0), none, none, none, none, none]])
def xm114 : XM := (yX9_alikePlaces, cX9_alikePlaces, 10, (some .int), 0, 0, 0, 0, 9, [[some (.iconst 0, 0, 0, 0), some (.istore 4, 0, 0, 0), none, some (.iconst 0, 0, 0, 0), some (.istore 5, 0, 0, 0), none, some (.iload 5, 0, 0, 0), none, some (.bipush 16, 0, 0, 16), none, some (.if_icmp .ge 102, 112, 0, 0), none, none, some (.iload 5, 0, 0, 0), none, some (.iconst 4, 0, 0, 4)],
  [some (.irem, 0, 0, 0), some (.iload_n 2, 0, 0, 0), some (.iadd, 0, 0, 0), some (.istore 6, 0, 0, 0), none, some (.iload 5, 0, 0, 0), none, some (.iconst 4, 0, 0, 4), some (.idiv, 0, 0, 0), some (.iload_n 3, 0, 0, 0), some (.iadd, 0, 0, 0), some (.istore 7, 0, 0, 0), none, some (.iload 6, 0, 0, 0), none, some (.ifCond .lt 75, 106, 0, 0)],
  [none, none, some (.iload 6, 0, 0, 0), none, some (.iconst 4, 0, 0, 4), some (.if_icmp .ge 69, 106, 0, 0), none, none, some (.iload 7, 0, 0, 0), none, some (.ifCond .lt 64, 106, 0, 0), none, none, some (.iload 7, 0, 0, 0), none, some (.iconst 4, 0, 0, 4)],
  [some (.if_icmp .lt 6, 54, 0, 0), none, none, some (.goto 55, 106, 0, 0), none, none, some (.aload_n 0, 0, 0, 0), some (.getfield 98, 4, 0, 0), none, none, some (.iload 5, 0, 0, 0), none, some (.iaload, 0, 0, 0), some (.istore 8, 0, 0, 0), none, some (.aload_n 1, 0, 0, 0)],
  [some (.getfield 98, 4, 0, 0), none, none, some (.iconst 4, 0, 0, 4), some (.iload 7, 0, 0, 0), none, some (.imul, 0, 0, 0), some (.iload 6, 0, 0, 0), none, some (.iadd, 0, 0, 0), some (.iaload, 0, 0, 0), some (.istore 9, 0, 0, 0), none, some (.iload 8, 0, 0, 0), none, some (.bipush (-9), 0, 0, (-9))],
  [none, some (.if_icmp .eq 25, 106, 0, 0), none, none, some (.iload 9, 0, 0, 0), none, some (.bipush (-9), 0, 0, (-9)), none, some (.if_icmp .ne 6, 94, 0, 0), none, none, some (.goto 15, 106, 0, 0), none, none, some (.iload 8, 0, 0, 0), none],
  [some (.iload 9, 0, 0, 0), none, some (.if_icmp .eq 5, 103, 0, 0), none, none, some (.iconst 0, 0, 0, 0), some (.ireturn, 0, 0, 0), some (.iinc 4 1, 0, 0, 1), none, none, some (.iinc 5 1, 0, 0, 1), none, none, some (.goto (-103), 6, 0, 0), none, none],
  [some (.iload 4, 0, 0, 0), none, some (.ireturn, 0, 0, 0), none, none, none, none, none, none, none, none, none, none, none, none, none]])
def xm115 : XM := (yX9_mapped, cX9_mapped, 5, (some .int), 2, 43, 0, 0, 9, [[some (.iload_n 1, 0, 0, 0), some (.ifCond .lt 9, 10, 0, 0), none, none, some (.iload_n 1, 0, 0, 0), some (.bipush 63, 0, 0, 63), none, some (.if_icmp .le 5, 12, 0, 0), none, none, some (.iconst (-1), 0, 0, (-1)), some (.ireturn, 0, 0, 0), some (.lconst 0, 0, 0, 0), some (.lstore_n 2, 0, 0, 0), some (.iconst 0, 0, 0, 0), some (.istore 4, 0, 0, 0)],
  [none, some (.iload 4, 0, 0, 0), none, some (.aload_n 0, 0, 0, 0), some (.getfield 215, 9, 11, 0), none, none, some (.if_icmp .ge 39, 62, 0, 0), none, none, some (.aload_n 0, 0, 0, 0), some (.getfield 39, 9, 5, 0), none, none, some (.iload 4, 0, 0, 0), none],
  [some (.aaload, 0, 0, 0), some (.getfield 367, 2, 3, 0), none, none, some (.iload_n 1, 0, 0, 0), some (.iand, 0, 0, 0), some (.ifCond .eq 18, 56, 0, 0), none, none, some (.lload_n 2, 0, 0, 0), some (.lconst 1, 0, 0, 1), some (.aload_n 0, 0, 0, 0), some (.getfield 39, 9, 5, 0), none, none, some (.iload 4, 0, 0, 0)],
  [none, some (.aaload, 0, 0, 0), some (.getfield 370, 2, 0, 0), none, none, some (.lshl, 0, 0, 0), some (.lor, 0, 0, 0), some (.lstore_n 2, 0, 0, 0), some (.iinc 4 1, 0, 0, 1), none, none, some (.goto (-42), 17, 0, 0), none, none, some (.aload_n 0, 0, 0, 0), some (.lload_n 2, 0, 0, 0)],
  [some (.invokevirtual 194, 48, 2, 0), none, none, some (.ireturn, 0, 0, 0), none, none, none, none, none, none, none, none, none, none, none, none]])
def xm116 : XM := (yX9_plan, cX9_plan, 6, (some .int), 5, 117, 0, 0, 9, [[some (.iload_n 1, 0, 0, 0), some (.iconst 1, 0, 0, 1), some (.if_icmp .lt 19, 21, 0, 0), none, none, some (.iload_n 1, 0, 0, 0), some (.bipush 63, 0, 0, 63), none, some (.if_icmp .gt 13, 21, 0, 0), none, none, some (.iload_n 2, 0, 0, 0), some (.ifCond .lt 9, 21, 0, 0), none, none, some (.iload_n 2, 0, 0, 0)],
  [some (.bipush 63, 0, 0, 63), none, some (.if_icmp .le 5, 23, 0, 0), none, none, some (.iconst (-1), 0, 0, (-1)), some (.ireturn, 0, 0, 0), some (.iload_n 1, 0, 0, 0), some (.invokestatic 371, 117, 1, 0), none, none, some (.iconst 3, 0, 0, 3), some (.if_icmp .le 6, 34, 0, 0), none, none, some (.bipush (-6), 0, 0, (-6))],
  [none, some (.ireturn, 0, 0, 0), some (.aload_n 0, 0, 0, 0), some (.iload_n 2, 0, 0, 0), some (.invokevirtual 375, 118, 2, 0), none, none, some (.istore_n 3, 0, 0, 0), some (.iload_n 3, 0, 0, 0), some (.ifCond .eq 9, 50, 0, 0), none, none, some (.aload_n 0, 0, 0, 0), some (.iload_n 3, 0, 0, 0), some (.invokevirtual 82, 10, 2, 0), none],
  [none, some (.ireturn, 0, 0, 0), some (.aload_n 0, 0, 0, 0), some (.getfield 53, 9, 7, 0), none, none, some (.invokevirtual 378, 121, 1, 0), none, none, some (.iconst 0, 0, 0, 0), some (.istore 4, 0, 0, 0), none, some (.iconst 0, 0, 0, 0), some (.istore 5, 0, 0, 0), none, some (.iload 5, 0, 0, 0)],
  [none, some (.bipush 6, 0, 0, 6), none, some (.if_icmp .ge 31, 98, 0, 0), none, none, some (.iload_n 1, 0, 0, 0), some (.i2l, 0, 0, 0), some (.iload 5, 0, 0, 0), none, some (.invokestatic 325, 26, 2, 0), none, none, some (.ifCond .eq 15, 92, 0, 0), none, none],
  [some (.aload_n 0, 0, 0, 0), some (.iload 4, 0, 0, 0), none, some (.iload 5, 0, 0, 0), none, some (.iload_n 2, 0, 0, 0), some (.invokevirtual 381, 122, 4, 0), none, none, some (.iinc 4 1, 0, 0, 1), none, none, some (.iinc 5 1, 0, 0, 1), none, none, some (.goto (-32), 63, 0, 0)],
  [none, none, some (.aload_n 0, 0, 0, 0), some (.getfield 53, 9, 7, 0), none, none, some (.invokevirtual 385, 126, 1, 0), none, none, some (.aload_n 0, 0, 0, 0), some (.aload_n 0, 0, 0, 0), some (.getfield 53, 9, 7, 0), none, none, some (.getfield 388, 3, 3, 0), none],
  [none, some (.putfield 364, 9, 15, 0), none, none, some (.aload_n 0, 0, 0, 0), some (.getfield 53, 9, 7, 0), none, none, some (.getfield 391, 3, 2, 0), none, none, some (.ireturn, 0, 0, 0), none, none, none, none]])
def xm117 : XM := ((⟨"java/lang/Integer", "bitCount", "(I)I"⟩ : MethodName), prog_13_method_49_code, 1, (some .int), 0, 0, 0, 0, 13, [[some (.iload_n 0, 0, 0, 0), some (.iload_n 0, 0, 0, 0), some (.iconst 1, 0, 0, 1), some (.iushr, 0, 0, 0), some (.ldc_w 265, 0, 0, 1431655765), none, none, some (.iand, 0, 0, 0), some (.isub, 0, 0, 0), some (.istore_n 0, 0, 0, 0), some (.iload_n 0, 0, 0, 0), some (.ldc_w 266, 0, 0, 858993459), none, none, some (.iand, 0, 0, 0), some (.iload_n 0, 0, 0, 0)],
  [some (.iconst 2, 0, 0, 2), some (.iushr, 0, 0, 0), some (.ldc_w 266, 0, 0, 858993459), none, none, some (.iand, 0, 0, 0), some (.iadd, 0, 0, 0), some (.istore_n 0, 0, 0, 0), some (.iload_n 0, 0, 0, 0), some (.iload_n 0, 0, 0, 0), some (.iconst 4, 0, 0, 4), some (.iushr, 0, 0, 0), some (.iadd, 0, 0, 0), some (.ldc_w 267, 0, 0, 252645135), none, none],
  [some (.iand, 0, 0, 0), some (.istore_n 0, 0, 0, 0), some (.iload_n 0, 0, 0, 0), some (.iload_n 0, 0, 0, 0), some (.bipush 8, 0, 0, 8), none, some (.iushr, 0, 0, 0), some (.iadd, 0, 0, 0), some (.istore_n 0, 0, 0, 0), some (.iload_n 0, 0, 0, 0), some (.iload_n 0, 0, 0, 0), some (.bipush 16, 0, 0, 16), none, some (.iushr, 0, 0, 0), some (.iadd, 0, 0, 0), some (.istore_n 0, 0, 0, 0)],
  [some (.iload_n 0, 0, 0, 0), some (.bipush 63, 0, 0, 63), none, some (.iand, 0, 0, 0), some (.ireturn, 0, 0, 0), none, none, none, none, none, none, none, none, none, none, none]])
def xm118 : XM := (yX9_faultOfPlanRows, cX9_faultOfPlanRows, 5, (some .int), 3, 62, 0, 0, 9, [[some (.iconst 0, 0, 0, 0), some (.istore_n 2, 0, 0, 0), some (.iconst 0, 0, 0, 0), some (.istore_n 3, 0, 0, 0), some (.iload_n 3, 0, 0, 0), some (.bipush 6, 0, 0, 6), none, some (.if_icmp .ge 56, 63, 0, 0), none, none, some (.iload_n 1, 0, 0, 0), some (.i2l, 0, 0, 0), some (.iload_n 3, 0, 0, 0), some (.invokestatic 325, 26, 2, 0), none, none],
  [some (.ifCond .eq 17, 33, 0, 0), none, none, some (.aload_n 0, 0, 0, 0), some (.getfield 11, 9, 0, 0), none, none, some (.iload_n 3, 0, 0, 0), some (.aaload, 0, 0, 0), some (.bipush 12, 0, 0, 12), none, some (.invokestatic 394, 119, 2, 0), none, none, some (.goto 4, 34, 0, 0), none],
  [none, some (.iconst 0, 0, 0, 0), some (.istore 4, 0, 0, 0), none, some (.iload 4, 0, 0, 0), none, some (.iconst 1, 0, 0, 1), some (.if_icmp .ne 5, 44, 0, 0), none, none, some (.iconst 1, 0, 0, 1), some (.ireturn, 0, 0, 0), some (.iload 4, 0, 0, 0), none, some (.iconst 5, 0, 0, 5), some (.if_icmp .eq 7, 54, 0, 0)],
  [none, none, some (.iload_n 2, 0, 0, 0), some (.ifCond .ne 6, 57, 0, 0), none, none, some (.iload 4, 0, 0, 0), none, some (.istore_n 2, 0, 0, 0), some (.iinc 3 1, 0, 0, 1), none, none, some (.goto (-56), 4, 0, 0), none, none, some (.iload_n 2, 0, 0, 0)],
  [some (.ireturn, 0, 0, 0), none, none, none, none, none, none, none, none, none, none, none, none, none, none, none]])
def xm119 : XM := (yX9_faultOfWays, cX9_faultOfWays, 2, (some .int), 2, 41, 0, 0, 9, [[some (.aload_n 0, 0, 0, 0), some (.invokevirtual 90, 13, 1, 0), none, none, some (.ifCond .eq 5, 9, 0, 0), none, none, some (.iconst 1, 0, 0, 1), some (.ireturn, 0, 0, 0), some (.aload_n 0, 0, 0, 0), some (.getfield 104, 4, 1, 0), none, none, some (.iconst 1, 0, 0, 1), some (.if_icmp .lt 11, 25, 0, 0), none],
  [none, some (.aload_n 0, 0, 0, 0), some (.getfield 104, 4, 1, 0), none, none, some (.iload_n 1, 0, 0, 0), some (.if_icmp .le 5, 27, 0, 0), none, none, some (.iconst 5, 0, 0, 5), some (.ireturn, 0, 0, 0), some (.aload_n 0, 0, 0, 0), some (.invokestatic 519, 120, 1, 0), none, none, some (.ifCond .eq 7, 38, 0, 0)],
  [none, none, some (.iconst 0, 0, 0, 0), some (.goto 4, 39, 0, 0), none, none, some (.iconst 3, 0, 0, 3), some (.ireturn, 0, 0, 0), none, none, none, none, none, none, none, none]])
def xm120 : XM := (yX9_areWays, cX9_areWays, 2, (some .boolean), 1, 20, 0, 0, 9, [[some (.iconst 0, 0, 0, 0), some (.istore_n 1, 0, 0, 0), some (.iload_n 1, 0, 0, 0), some (.aload_n 0, 0, 0, 0), some (.getfield 104, 4, 1, 0), none, none, some (.if_icmp .ge 23, 30, 0, 0), none, none, some (.aload_n 0, 0, 0, 0), some (.getfield 98, 4, 0, 0), none, none, some (.iload_n 1, 0, 0, 0), some (.iaload, 0, 0, 0)],
  [some (.invokestatic 133, 29, 1, 0), none, none, some (.ifCond .ne 5, 24, 0, 0), none, none, some (.iconst 0, 0, 0, 0), some (.ireturn, 0, 0, 0), some (.iinc 1 1, 0, 0, 1), none, none, some (.goto (-25), 2, 0, 0), none, none, some (.iconst 1, 0, 0, 1), some (.ireturn, 0, 0, 0)]])
def xm121 : XM := (yX3_forget, cX3_forget, 2, none, 0, 0, 0, 0, 3, [[some (.iconst 0, 0, 0, 0), some (.istore_n 1, 0, 0, 0), some (.iload_n 1, 0, 0, 0), some (.aload_n 0, 0, 0, 0), some (.getfield 15, 3, 1, 0), none, none, some (.arraylength, 0, 0, 0), some (.if_icmp .ge 27, 35, 0, 0), none, none, some (.aload_n 0, 0, 0, 0), some (.getfield 15, 3, 1, 0), none, none, some (.iload_n 1, 0, 0, 0)],
  [some (.iload_n 1, 0, 0, 0), some (.bipush 7, 0, 0, 7), none, some (.irem, 0, 0, 0), some (.ifCond .ne 7, 27, 0, 0), none, none, some (.iconst 1, 0, 0, 1), some (.goto 4, 28, 0, 0), none, none, some (.iconst 0, 0, 0, 0), some (.bastore, 0, 0, 0), some (.iinc 1 1, 0, 0, 1), none, none],
  [some (.goto (-30), 2, 0, 0), none, none, some (.return_, 0, 0, 0), none, none, none, none, none, none, none, none, none, none, none, none]])
def xm122 : XM := (yX9_offerRows, cX9_offerRows, 5, none, 4, 93, 0, 0, 9, [[some (.iconst 0, 0, 0, 0), some (.istore 4, 0, 0, 0), none, some (.iload 4, 0, 0, 0), none, some (.bipush 6, 0, 0, 6), none, some (.if_icmp .ge 76, 83, 0, 0), none, none, some (.iload_n 3, 0, 0, 0), some (.i2l, 0, 0, 0), some (.iload 4, 0, 0, 0), none, some (.invokestatic 325, 26, 2, 0), none],
  [none, some (.ifCond .eq 60, 77, 0, 0), none, none, some (.aload_n 0, 0, 0, 0), some (.getfield 27, 9, 3, 0), none, none, some (.iload_n 2, 0, 0, 0), some (.aaload, 0, 0, 0), some (.getfield 185, 0, 3, 0), none, none, some (.aload_n 0, 0, 0, 0), some (.getfield 11, 9, 0, 0), none],
  [none, some (.iload 4, 0, 0, 0), none, some (.aaload, 0, 0, 0), some (.invokestatic 522, 123, 1, 0), none, none, some (.if_icmp .lt 38, 77, 0, 0), none, none, some (.aload_n 0, 0, 0, 0), some (.getfield 53, 9, 7, 0), none, none, some (.iload_n 1, 0, 0, 0), some (.iload 4, 0, 0, 0)],
  [none, some (.iconst 1, 0, 0, 1), some (.iadd, 0, 0, 0), some (.aload_n 0, 0, 0, 0), some (.getfield 21, 9, 2, 0), none, none, some (.aload_n 0, 0, 0, 0), some (.getfield 27, 9, 3, 0), none, none, some (.iload_n 2, 0, 0, 0), some (.aaload, 0, 0, 0), some (.getfield 218, 0, 2, 0), none, none],
  [some (.aload_n 0, 0, 0, 0), some (.getfield 11, 9, 0, 0), none, none, some (.iload 4, 0, 0, 0), none, some (.aaload, 0, 0, 0), some (.invokevirtual 525, 124, 3, 0), none, none, some (.invokevirtual 529, 125, 4, 0), none, none, some (.iinc 4 1, 0, 0, 1), none, none],
  [some (.goto (-77), 3, 0, 0), none, none, some (.return_, 0, 0, 0), none, none, none, none, none, none, none, none, none, none, none, none]])
def xm123 : XM := (yX9_powerFor, cX9_powerFor, 3, (some .int), 0, 0, 0, 0, 9, [[some (.iconst 0, 0, 0, 0), some (.istore_n 1, 0, 0, 0), some (.iconst 0, 0, 0, 0), some (.istore_n 2, 0, 0, 0), some (.iload_n 2, 0, 0, 0), some (.aload_n 0, 0, 0, 0), some (.getfield 104, 4, 1, 0), none, none, some (.if_icmp .ge 26, 35, 0, 0), none, none, some (.iload_n 1, 0, 0, 0), some (.aload_n 0, 0, 0, 0), some (.getfield 98, 4, 0, 0), none],
  [none, some (.iload_n 2, 0, 0, 0), some (.iaload, 0, 0, 0), some (.ifCond .ne 7, 26, 0, 0), none, none, some (.iconst 0, 0, 0, 0), some (.goto 4, 27, 0, 0), none, none, some (.iconst 2, 0, 0, 2), some (.iadd, 0, 0, 0), some (.istore_n 1, 0, 0, 0), some (.iinc 2 1, 0, 0, 1), none, none],
  [some (.goto (-28), 4, 0, 0), none, none, some (.iload_n 1, 0, 0, 0), some (.ireturn, 0, 0, 0), none, none, none, none, none, none, none, none, none, none, none]])
def xm124 : XM := (yX6_cellsOnTheWay, cX6_cellsOnTheWay, 7, (some .long), 3, 67, 0, 0, 6, [[some (.lconst 1, 0, 0, 1), some (.iload_n 1, 0, 0, 0), some (.lshl, 0, 0, 0), some (.lstore_n 3, 0, 0, 0), some (.iload_n 1, 0, 0, 0), some (.istore 5, 0, 0, 0), none, some (.iconst 0, 0, 0, 0), some (.istore 6, 0, 0, 0), none, some (.iload 6, 0, 0, 0), none, some (.aload_n 2, 0, 0, 0), some (.getfield 66, 4, 1, 0), none, none],
  [some (.if_icmp .ge 31, 47, 0, 0), none, none, some (.aload_n 0, 0, 0, 0), some (.iload 5, 0, 0, 0), none, some (.aload_n 2, 0, 0, 0), some (.getfield 72, 4, 0, 0), none, none, some (.iload 6, 0, 0, 0), none, some (.iaload, 0, 0, 0), some (.invokevirtual 55, 53, 3, 0), none, none],
  [some (.istore 5, 0, 0, 0), none, some (.lload_n 3, 0, 0, 0), some (.lconst 1, 0, 0, 1), some (.iload 5, 0, 0, 0), none, some (.lshl, 0, 0, 0), some (.lor, 0, 0, 0), some (.lstore_n 3, 0, 0, 0), some (.iinc 6 1, 0, 0, 1), none, none, some (.goto (-34), 10, 0, 0), none, none, some (.lload_n 3, 0, 0, 0)],
  [some (.lreturn, 0, 0, 0), none, none, none, none, none, none, none, none, none, none, none, none, none, none, none]])
def xm125 : XM := (yX3_offer, cX3_offer, 5, none, 0, 0, 0, 0, 3, [[some (.aload_n 0, 0, 0, 0), some (.getfield 9, 3, 0, 0), none, none, some (.iload_n 1, 0, 0, 0), some (.bipush 7, 0, 0, 7), none, some (.imul, 0, 0, 0), some (.iload_n 2, 0, 0, 0), some (.iadd, 0, 0, 0), some (.lload_n 3, 0, 0, 0), some (.lastore, 0, 0, 0), some (.aload_n 0, 0, 0, 0), some (.getfield 15, 3, 1, 0), none, none],
  [some (.iload_n 1, 0, 0, 0), some (.bipush 7, 0, 0, 7), none, some (.imul, 0, 0, 0), some (.iload_n 2, 0, 0, 0), some (.iadd, 0, 0, 0), some (.iconst 1, 0, 0, 1), some (.bastore, 0, 0, 0), some (.return_, 0, 0, 0), none, none, none, none, none, none, none]])
def xm126 : XM := (yX3_choose, cX3_choose, 4, none, 2, 45, 0, 0, 3, [[some (.aload_n 0, 0, 0, 0), some (.iconst (-1), 0, 0, (-1)), some (.putfield 19, 3, 2, 0), none, none, some (.iconst 0, 0, 0, 0), some (.istore_n 1, 0, 0, 0), some (.iload_n 1, 0, 0, 0), some (.bipush 7, 0, 0, 7), none, some (.if_icmp .ge 64, 74, 0, 0), none, none, some (.bipush 7, 0, 0, 7), none, some (.istore_n 2, 0, 0, 0)],
  [some (.iload_n 2, 0, 0, 0), some (.bipush 14, 0, 0, 14), none, some (.if_icmp .ge 49, 68, 0, 0), none, none, some (.aload_n 0, 0, 0, 0), some (.getfield 15, 3, 1, 0), none, none, some (.iload_n 1, 0, 0, 0), some (.baload, 0, 0, 0), some (.ifCond .eq 40, 68, 0, 0), none, none, some (.bipush 14, 0, 0, 14)],
  [none, some (.istore_n 3, 0, 0, 0), some (.iload_n 3, 0, 0, 0), some (.bipush 21, 0, 0, 21), none, some (.if_icmp .ge 25, 62, 0, 0), none, none, some (.aload_n 0, 0, 0, 0), some (.getfield 15, 3, 1, 0), none, none, some (.iload_n 2, 0, 0, 0), some (.baload, 0, 0, 0), some (.ifCond .eq 16, 62, 0, 0), none],
  [none, some (.aload_n 0, 0, 0, 0), some (.iload_n 1, 0, 0, 0), some (.iload_n 2, 0, 0, 0), some (.iload_n 3, 0, 0, 0), some (.invokevirtual 23, 127, 4, 0), none, none, some (.iinc 3 1, 0, 0, 1), none, none, some (.goto (-25), 34, 0, 0), none, none, some (.iinc 2 1, 0, 0, 1), none],
  [none, some (.goto (-49), 16, 0, 0), none, none, some (.iinc 1 1, 0, 0, 1), none, none, some (.goto (-64), 7, 0, 0), none, none, some (.return_, 0, 0, 0), none, none, none, none, none]])
def xm127 : XM := (yX3_weigh, cX3_weigh, 5, none, 1, 21, 0, 0, 3, [[some (.aload_n 0, 0, 0, 0), some (.getfield 9, 3, 0, 0), none, none, some (.iload_n 1, 0, 0, 0), some (.laload, 0, 0, 0), some (.aload_n 0, 0, 0, 0), some (.getfield 9, 3, 0, 0), none, none, some (.iload_n 2, 0, 0, 0), some (.laload, 0, 0, 0), some (.lor, 0, 0, 0), some (.aload_n 0, 0, 0, 0), some (.getfield 9, 3, 0, 0), none],
  [none, some (.iload_n 3, 0, 0, 0), some (.laload, 0, 0, 0), some (.lor, 0, 0, 0), some (.invokestatic 27, 43, 1, 0), none, none, some (.istore 4, 0, 0, 0), none, some (.aload_n 0, 0, 0, 0), some (.getfield 15, 3, 1, 0), none, none, some (.iload_n 3, 0, 0, 0), some (.baload, 0, 0, 0), some (.ifCond .eq 39, 70, 0, 0)],
  [none, none, some (.iload 4, 0, 0, 0), none, some (.aload_n 0, 0, 0, 0), some (.getfield 19, 3, 2, 0), none, none, some (.if_icmp .le 30, 70, 0, 0), none, none, some (.aload_n 0, 0, 0, 0), some (.iload 4, 0, 0, 0), none, some (.putfield 19, 3, 2, 0), none],
  [none, some (.aload_n 0, 0, 0, 0), some (.iload_n 1, 0, 0, 0), some (.bipush 10, 0, 0, 10), none, some (.iload_n 2, 0, 0, 0), some (.bipush 7, 0, 0, 7), none, some (.isub, 0, 0, 0), some (.imul, 0, 0, 0), some (.iadd, 0, 0, 0), some (.bipush 100, 0, 0, 100), none, some (.iload_n 3, 0, 0, 0), some (.bipush 14, 0, 0, 14), none],
  [some (.isub, 0, 0, 0), some (.imul, 0, 0, 0), some (.iadd, 0, 0, 0), some (.putfield 33, 3, 3, 0), none, none, some (.return_, 0, 0, 0), none, none, none, none, none, none, none, none, none]])
end
section
/-! ===== methods 128 on ===== -/
def xm128 : XM := (yX9_odds, cX9_odds, 8, (some .int), 5, 115, 0, 0, 9, [[some (.aload_n 0, 0, 0, 0), some (.iload_n 2, 0, 0, 0), some (.invokevirtual 78, 9, 2, 0), none, none, some (.astore_n 3, 0, 0, 0), some (.aload_n 0, 0, 0, 0), some (.iload_n 1, 0, 0, 0), some (.invokevirtual 251, 80, 2, 0), none, none, some (.ifCond .eq 7, 18, 0, 0), none, none, some (.aload_n 3, 0, 0, 0), some (.ifnonnull 5, 20, 0, 0)],
  [none, none, some (.iconst (-1), 0, 0, (-1)), some (.ireturn, 0, 0, 0), some (.aload_n 3, 0, 0, 0), some (.bipush 8, 0, 0, 8), none, some (.invokestatic 394, 119, 2, 0), none, none, some (.istore 4, 0, 0, 0), none, some (.iload 4, 0, 0, 0), none, some (.ifCond .eq 10, 40, 0, 0), none],
  [none, some (.aload_n 0, 0, 0, 0), some (.iload 4, 0, 0, 0), none, some (.invokevirtual 82, 10, 2, 0), none, none, some (.ireturn, 0, 0, 0), some (.aload_n 0, 0, 0, 0), some (.getfield 60, 9, 8, 0), none, none, some (.iload_n 1, 0, 0, 0), some (.invokevirtual 398, 129, 2, 0), none, none],
  [some (.lconst 1, 0, 0, 1), some (.lstore 5, 0, 0, 0), none, some (.iconst 0, 0, 0, 0), some (.istore 7, 0, 0, 0), none, some (.iload 7, 0, 0, 0), none, some (.aload_n 3, 0, 0, 0), some (.getfield 104, 4, 1, 0), none, none, some (.if_icmp .ge 36, 96, 0, 0), none, none, some (.aload_n 0, 0, 0, 0)],
  [some (.getfield 60, 9, 8, 0), none, none, some (.aload_n 0, 0, 0, 0), some (.getfield 21, 9, 2, 0), none, none, some (.aload_n 3, 0, 0, 0), some (.getfield 98, 4, 0, 0), none, none, some (.iload 7, 0, 0, 0), none, some (.iaload, 0, 0, 0), some (.iconst 3, 0, 0, 3), some (.invokevirtual 401, 132, 4, 0)],
  [none, none, some (.lload 5, 0, 0, 0), none, some (.ldc2_w 405, 0, 0, 4), none, none, some (.lmul, 0, 0, 0), some (.lstore 5, 0, 0, 0), none, some (.iinc 7 1, 0, 0, 1), none, none, some (.goto (-39), 54, 0, 0), none, none],
  [some (.aload_n 0, 0, 0, 0), some (.aload_n 0, 0, 0, 0), some (.getfield 60, 9, 8, 0), none, none, some (.getfield 407, 1, 0, 0), none, none, some (.aload_n 0, 0, 0, 0), some (.getfield 21, 9, 2, 0), none, none, some (.getfield 120, 6, 7, 0), none, none, some (.iaload, 0, 0, 0)],
  [some (.i2l, 0, 0, 0), some (.lload 5, 0, 0, 0), none, some (.invokevirtual 410, 134, 3, 0), none, none, some (.iconst 1, 0, 0, 1), some (.ireturn, 0, 0, 0), none, none, none, none, none, none, none, none]])
def xm129 : XM := (yX1_startIn, cX1_startIn, 2, none, 1, 22, 0, 0, 1, [[some (.aload_n 0, 0, 0, 0), some (.invokevirtual 24, 130, 1, 0), none, none, some (.aload_n 0, 0, 0, 0), some (.invokevirtual 27, 131, 1, 0), none, none, some (.aload_n 0, 0, 0, 0), some (.getfield 11, 1, 0, 0), none, none, some (.iload_n 1, 0, 0, 0), some (.iconst 1, 0, 0, 1), some (.iastore, 0, 0, 0), some (.aload_n 0, 0, 0, 0)],
  [some (.getfield 15, 1, 1, 0), none, none, some (.iload_n 1, 0, 0, 0), some (.iconst 0, 0, 0, 0), some (.iastore, 0, 0, 0), some (.return_, 0, 0, 0), none, none, none, none, none, none, none, none, none]])
def xm130 : XM := (yX1_clearNext, cX1_clearNext, 2, none, 0, 0, 0, 0, 1, [[some (.iconst 0, 0, 0, 0), some (.istore_n 1, 0, 0, 0), some (.iload_n 1, 0, 0, 0), some (.bipush 64, 0, 0, 64), none, some (.if_icmp .ge 25, 30, 0, 0), none, none, some (.aload_n 0, 0, 0, 0), some (.getfield 18, 1, 2, 0), none, none, some (.iload_n 1, 0, 0, 0), some (.iconst 0, 0, 0, 0), some (.iastore, 0, 0, 0), some (.aload_n 0, 0, 0, 0)],
  [some (.getfield 21, 1, 3, 0), none, none, some (.iload_n 1, 0, 0, 0), some (.sipush 11264, 0, 0, 11264), none, none, some (.iastore, 0, 0, 0), some (.iinc 1 1, 0, 0, 1), none, none, some (.goto (-25), 2, 0, 0), none, none, some (.return_, 0, 0, 0), none]])
def xm131 : XM := (yX1_swapNext, cX1_swapNext, 3, none, 0, 0, 0, 0, 1, [[some (.aload_n 0, 0, 0, 0), some (.getfield 11, 1, 0, 0), none, none, some (.astore_n 1, 0, 0, 0), some (.aload_n 0, 0, 0, 0), some (.getfield 15, 1, 1, 0), none, none, some (.astore_n 2, 0, 0, 0), some (.aload_n 0, 0, 0, 0), some (.aload_n 0, 0, 0, 0), some (.getfield 18, 1, 2, 0), none, none, some (.putfield 11, 1, 0, 0)],
  [none, none, some (.aload_n 0, 0, 0, 0), some (.aload_n 0, 0, 0, 0), some (.getfield 21, 1, 3, 0), none, none, some (.putfield 15, 1, 1, 0), none, none, some (.aload_n 0, 0, 0, 0), some (.aload_n 1, 0, 0, 0), some (.putfield 18, 1, 2, 0), none, none, some (.aload_n 0, 0, 0, 0)],
  [some (.aload_n 2, 0, 0, 0), some (.putfield 21, 1, 3, 0), none, none, some (.return_, 0, 0, 0), none, none, none, none, none, none, none, none, none, none, none]])
def xm132 : XM := (yX1_follow, cX1_follow, 8, none, 4, 88, 0, 0, 1, [[some (.aload_n 0, 0, 0, 0), some (.invokevirtual 24, 130, 1, 0), none, none, some (.iconst 0, 0, 0, 0), some (.istore 4, 0, 0, 0), none, some (.iload 4, 0, 0, 0), none, some (.bipush 64, 0, 0, 64), none, some (.if_icmp .ge 103, 114, 0, 0), none, none, some (.aload_n 0, 0, 0, 0), some (.getfield 11, 1, 0, 0)],
  [none, none, some (.iload 4, 0, 0, 0), none, some (.iaload, 0, 0, 0), some (.ifCond .ne 6, 27, 0, 0), none, none, some (.goto 84, 108, 0, 0), none, none, some (.aload_n 1, 0, 0, 0), some (.iload 4, 0, 0, 0), none, some (.iload_n 2, 0, 0, 0), some (.invokevirtual 30, 53, 3, 0)],
  [none, none, some (.istore 5, 0, 0, 0), none, some (.aload_n 0, 0, 0, 0), some (.getfield 15, 1, 1, 0), none, none, some (.iload 4, 0, 0, 0), none, some (.iaload, 0, 0, 0), some (.istore 6, 0, 0, 0), none, some (.iload 6, 0, 0, 0), none, some (.sipush 1024, 0, 0, 1024)],
  [none, none, some (.idiv, 0, 0, 0), some (.sipush 1024, 0, 0, 1024), none, none, some (.imul, 0, 0, 0), some (.iload 6, 0, 0, 0), none, some (.sipush 1024, 0, 0, 1024), none, none, some (.irem, 0, 0, 0), some (.iconst 2, 0, 0, 2), some (.imul, 0, 0, 0), some (.iadd, 0, 0, 0)],
  [some (.istore 7, 0, 0, 0), none, some (.aload_n 0, 0, 0, 0), some (.aload_n 1, 0, 0, 0), some (.iload 5, 0, 0, 0), none, some (.invokevirtual 36, 55, 2, 0), none, none, some (.aload_n 0, 0, 0, 0), some (.getfield 11, 1, 0, 0), none, none, some (.iload 4, 0, 0, 0), none, some (.iaload, 0, 0, 0)],
  [some (.iload_n 3, 0, 0, 0), some (.imul, 0, 0, 0), some (.iload 7, 0, 0, 0), none, some (.invokevirtual 40, 133, 4, 0), none, none, some (.aload_n 0, 0, 0, 0), some (.iload 5, 0, 0, 0), none, some (.aload_n 0, 0, 0, 0), some (.getfield 11, 1, 0, 0), none, none, some (.iload 4, 0, 0, 0), none],
  [some (.iaload, 0, 0, 0), some (.iload 7, 0, 0, 0), none, some (.sipush 1024, 0, 0, 1024), none, none, some (.iadd, 0, 0, 0), some (.iconst 1, 0, 0, 1), some (.iadd, 0, 0, 0), some (.invokevirtual 40, 133, 4, 0), none, none, some (.iinc 4 1, 0, 0, 1), none, none, some (.goto (-104), 7, 0, 0)],
  [none, none, some (.aload_n 0, 0, 0, 0), some (.invokevirtual 27, 131, 1, 0), none, none, some (.return_, 0, 0, 0), none, none, none, none, none, none, none, none, none]])
def xm133 : XM := (yX1_lead, cX1_lead, 4, none, 1, 40, 0, 0, 1, [[some (.aload_n 0, 0, 0, 0), some (.getfield 18, 1, 2, 0), none, none, some (.iload_n 1, 0, 0, 0), some (.dup2, 0, 0, 0), some (.iaload, 0, 0, 0), some (.iload_n 2, 0, 0, 0), some (.iadd, 0, 0, 0), some (.iastore, 0, 0, 0), some (.aload_n 0, 0, 0, 0), some (.getfield 21, 1, 3, 0), none, none, some (.iload_n 1, 0, 0, 0), some (.aload_n 0, 0, 0, 0)],
  [some (.getfield 21, 1, 3, 0), none, none, some (.iload_n 1, 0, 0, 0), some (.iaload, 0, 0, 0), some (.iload_n 3, 0, 0, 0), some (.invokestatic 44, 7001, 2, 0), none, none, some (.iastore, 0, 0, 0), some (.return_, 0, 0, 0), none, none, none, none, none]])
def xm134 : XM := (yX9_tellShare, cX9_tellShare, 10, none, 0, 0, 0, 0, 9, [[some (.lload_n 1, 0, 0, 0), some (.lstore 5, 0, 0, 0), none, some (.lload_n 3, 0, 0, 0), some (.lstore 7, 0, 0, 0), none, some (.iconst 0, 0, 0, 0), some (.istore 9, 0, 0, 0), none, some (.iload 9, 0, 0, 0), none, some (.bipush 16, 0, 0, 16), none, some (.if_icmp .ge 43, 56, 0, 0), none, none],
  [some (.lload 7, 0, 0, 0), none, some (.lconst 1, 0, 0, 1), some (.lcmp, 0, 0, 0), some (.ifCond .le 36, 56, 0, 0), none, none, some (.lload 5, 0, 0, 0), none, some (.ldc2_w 468, 0, 0, 2), none, none, some (.lrem, 0, 0, 0), some (.lconst 0, 0, 0, 0), some (.lcmp, 0, 0, 0), some (.ifCond .ne 25, 56, 0, 0)],
  [none, none, some (.lload 5, 0, 0, 0), none, some (.ldc2_w 468, 0, 0, 2), none, none, some (.ldiv, 0, 0, 0), some (.lstore 5, 0, 0, 0), none, some (.lload 7, 0, 0, 0), none, some (.ldc2_w 468, 0, 0, 2), none, none, some (.ldiv, 0, 0, 0)],
  [some (.lstore 7, 0, 0, 0), none, some (.iinc 9 1, 0, 0, 1), none, none, some (.goto (-44), 9, 0, 0), none, none, some (.aload_n 0, 0, 0, 0), some (.lload 5, 0, 0, 0), none, some (.putfield 431, 9, 17, 0), none, none, some (.aload_n 0, 0, 0, 0), some (.lload 7, 0, 0, 0)],
  [none, some (.putfield 72, 9, 18, 0), none, none, some (.return_, 0, 0, 0), none, none, none, none, none, none, none, none, none, none, none]])
def xm135 : XM := (yX9_courses, cX9_courses, 8, (some .int), 5, 115, 0, 0, 9, [[some (.aload_n 0, 0, 0, 0), some (.iload_n 2, 0, 0, 0), some (.invokevirtual 78, 9, 2, 0), none, none, some (.astore 4, 0, 0, 0), none, some (.aload_n 0, 0, 0, 0), some (.iload_n 3, 0, 0, 0), some (.invokevirtual 78, 9, 2, 0), none, none, some (.astore 5, 0, 0, 0), none, some (.aload_n 0, 0, 0, 0), some (.iload_n 1, 0, 0, 0)],
  [some (.invokevirtual 251, 80, 2, 0), none, none, some (.ifCond .eq 13, 32, 0, 0), none, none, some (.aload 4, 0, 0, 0), none, some (.ifnull 8, 32, 0, 0), none, none, some (.aload 5, 0, 0, 0), none, some (.ifnonnull 5, 34, 0, 0), none, none],
  [some (.iconst (-1), 0, 0, (-1)), some (.ireturn, 0, 0, 0), some (.aload 4, 0, 0, 0), none, some (.aload 5, 0, 0, 0), none, some (.invokestatic 414, 136, 2, 0), none, none, some (.istore 6, 0, 0, 0), none, some (.iload 6, 0, 0, 0), none, some (.ifCond .eq 10, 55, 0, 0), none, none],
  [some (.aload_n 0, 0, 0, 0), some (.iload 6, 0, 0, 0), none, some (.invokevirtual 82, 10, 2, 0), none, none, some (.ireturn, 0, 0, 0), some (.aload_n 0, 0, 0, 0), some (.getfield 60, 9, 8, 0), none, none, some (.iload_n 1, 0, 0, 0), some (.invokevirtual 398, 129, 2, 0), none, none, some (.iconst 0, 0, 0, 0)],
  [some (.istore 7, 0, 0, 0), none, some (.iload 7, 0, 0, 0), none, some (.aload 4, 0, 0, 0), none, some (.getfield 104, 4, 1, 0), none, none, some (.if_icmp .ge 39, 112, 0, 0), none, none, some (.aload_n 0, 0, 0, 0), some (.getfield 60, 9, 8, 0), none, none],
  [some (.aload_n 0, 0, 0, 0), some (.getfield 21, 9, 2, 0), none, none, some (.aload 4, 0, 0, 0), none, some (.getfield 98, 4, 0, 0), none, none, some (.iload 7, 0, 0, 0), none, some (.iaload, 0, 0, 0), some (.iconst 1, 0, 0, 1), some (.invokevirtual 401, 132, 4, 0), none, none],
  [some (.aload_n 0, 0, 0, 0), some (.aload 5, 0, 0, 0), none, some (.iload 7, 0, 0, 0), none, some (.iconst 1, 0, 0, 1), some (.iadd, 0, 0, 0), some (.invokevirtual 418, 138, 3, 0), none, none, some (.iinc 7 1, 0, 0, 1), none, none, some (.goto (-43), 66, 0, 0), none, none],
  [some (.aload_n 0, 0, 0, 0), some (.aload_n 0, 0, 0, 0), some (.getfield 60, 9, 8, 0), none, none, some (.invokevirtual 422, 140, 1, 0), none, none, some (.putfield 364, 9, 15, 0), none, none, some (.aload_n 0, 0, 0, 0), some (.getfield 60, 9, 8, 0), none, none, some (.invokevirtual 425, 141, 1, 0)],
  [none, none, some (.ireturn, 0, 0, 0), none, none, none, none, none, none, none, none, none, none, none, none, none]])
def xm136 : XM := (yX9_faultOfCourses, cX9_faultOfCourses, 2, (some .int), 2, 42, 0, 0, 9, [[some (.aload_n 0, 0, 0, 0), some (.invokevirtual 90, 13, 1, 0), none, none, some (.ifCond .ne 10, 14, 0, 0), none, none, some (.aload_n 1, 0, 0, 0), some (.invokevirtual 90, 13, 1, 0), none, none, some (.ifCond .eq 5, 16, 0, 0), none, none, some (.iconst 1, 0, 0, 1), some (.ireturn, 0, 0, 0)],
  [some (.aload_n 0, 0, 0, 0), some (.getfield 104, 4, 1, 0), none, none, some (.iconst 1, 0, 0, 1), some (.if_icmp .lt 21, 42, 0, 0), none, none, some (.aload_n 0, 0, 0, 0), some (.getfield 104, 4, 1, 0), none, none, some (.bipush 10, 0, 0, 10), none, some (.if_icmp .gt 12, 42, 0, 0), none],
  [none, some (.aload_n 1, 0, 0, 0), some (.getfield 104, 4, 1, 0), none, none, some (.iconst 2, 0, 0, 2), some (.irem, 0, 0, 0), some (.ifCond .eq 5, 44, 0, 0), none, none, some (.iconst 5, 0, 0, 5), some (.ireturn, 0, 0, 0), some (.aload_n 0, 0, 0, 0), some (.invokestatic 519, 120, 1, 0), none, none],
  [some (.ifCond .eq 18, 66, 0, 0), none, none, some (.aload_n 1, 0, 0, 0), some (.aload_n 0, 0, 0, 0), some (.getfield 104, 4, 1, 0), none, none, some (.invokestatic 533, 137, 2, 0), none, none, some (.ifCond .eq 7, 66, 0, 0), none, none, some (.iconst 0, 0, 0, 0), some (.goto 4, 67, 0, 0)],
  [none, none, some (.iconst 3, 0, 0, 3), some (.ireturn, 0, 0, 0), none, none, none, none, none, none, none, none, none, none, none, none]])
def xm137 : XM := (yX9_areSights, cX9_areSights, 3, (some .boolean), 1, 20, 0, 0, 9, [[some (.iconst 0, 0, 0, 0), some (.istore_n 2, 0, 0, 0), some (.iload_n 2, 0, 0, 0), some (.iconst 1, 0, 0, 1), some (.iadd, 0, 0, 0), some (.aload_n 0, 0, 0, 0), some (.getfield 104, 4, 1, 0), none, none, some (.if_icmp .ge 45, 54, 0, 0), none, none, some (.aload_n 0, 0, 0, 0), some (.getfield 98, 4, 0, 0), none, none],
  [some (.iload_n 2, 0, 0, 0), some (.iaload, 0, 0, 0), some (.iconst 1, 0, 0, 1), some (.if_icmp .lt 27, 46, 0, 0), none, none, some (.aload_n 0, 0, 0, 0), some (.getfield 98, 4, 0, 0), none, none, some (.iload_n 2, 0, 0, 0), some (.iaload, 0, 0, 0), some (.iload_n 1, 0, 0, 0), some (.if_icmp .gt 17, 46, 0, 0), none, none],
  [some (.aload_n 0, 0, 0, 0), some (.getfield 98, 4, 0, 0), none, none, some (.iload_n 2, 0, 0, 0), some (.iconst 1, 0, 0, 1), some (.iadd, 0, 0, 0), some (.iaload, 0, 0, 0), some (.invokestatic 116, 23, 1, 0), none, none, some (.ifCond .ne 5, 48, 0, 0), none, none, some (.iconst 0, 0, 0, 0), some (.ireturn, 0, 0, 0)],
  [some (.iinc 2 2, 0, 0, 2), none, none, some (.goto (-49), 2, 0, 0), none, none, some (.iconst 1, 0, 0, 1), some (.ireturn, 0, 0, 0), none, none, none, none, none, none, none, none]])
def xm138 : XM := (yX9_keepWhatWasSeen, cX9_keepWhatWasSeen, 4, none, 1, 22, 0, 0, 9, [[some (.iconst 0, 0, 0, 0), some (.istore_n 3, 0, 0, 0), some (.iload_n 3, 0, 0, 0), some (.iconst 1, 0, 0, 1), some (.iadd, 0, 0, 0), some (.aload_n 1, 0, 0, 0), some (.getfield 104, 4, 1, 0), none, none, some (.if_icmp .ge 34, 43, 0, 0), none, none, some (.aload_n 1, 0, 0, 0), some (.getfield 98, 4, 0, 0), none, none],
  [some (.iload_n 3, 0, 0, 0), some (.iaload, 0, 0, 0), some (.iload_n 2, 0, 0, 0), some (.if_icmp .ne 18, 37, 0, 0), none, none, some (.aload_n 0, 0, 0, 0), some (.getfield 60, 9, 8, 0), none, none, some (.aload_n 1, 0, 0, 0), some (.getfield 98, 4, 0, 0), none, none, some (.iload_n 3, 0, 0, 0), some (.iconst 1, 0, 0, 1)],
  [some (.iadd, 0, 0, 0), some (.iaload, 0, 0, 0), some (.invokevirtual 537, 139, 2, 0), none, none, some (.iinc 3 2, 0, 0, 2), none, none, some (.goto (-38), 2, 0, 0), none, none, some (.return_, 0, 0, 0), none, none, none, none]])
def xm139 : XM := (yX1_keepOnly, cX1_keepOnly, 3, none, 0, 0, 0, 0, 1, [[some (.iconst 0, 0, 0, 0), some (.istore_n 2, 0, 0, 0), some (.iload_n 2, 0, 0, 0), some (.bipush 64, 0, 0, 64), none, some (.if_icmp .ge 30, 35, 0, 0), none, none, some (.iload_n 2, 0, 0, 0), some (.iload_n 1, 0, 0, 0), some (.if_icmp .eq 19, 29, 0, 0), none, none, some (.aload_n 0, 0, 0, 0), some (.getfield 11, 1, 0, 0), none],
  [none, some (.iload_n 2, 0, 0, 0), some (.iconst 0, 0, 0, 0), some (.iastore, 0, 0, 0), some (.aload_n 0, 0, 0, 0), some (.getfield 15, 1, 1, 0), none, none, some (.iload_n 2, 0, 0, 0), some (.sipush 11264, 0, 0, 11264), none, none, some (.iastore, 0, 0, 0), some (.iinc 2 1, 0, 0, 1), none, none],
  [some (.goto (-30), 2, 0, 0), none, none, some (.return_, 0, 0, 0), none, none, none, none, none, none, none, none, none, none, none, none]])
def xm140 : XM := (yX1_leastOddRow, cX1_leastOddRow, 3, (some .int), 1, 40, 0, 0, 1, [[some (.sipush 11264, 0, 0, 11264), none, none, some (.istore_n 1, 0, 0, 0), some (.iconst 0, 0, 0, 0), some (.istore_n 2, 0, 0, 0), some (.iload_n 2, 0, 0, 0), some (.bipush 64, 0, 0, 64), none, some (.if_icmp .ge 20, 29, 0, 0), none, none, some (.iload_n 1, 0, 0, 0), some (.aload_n 0, 0, 0, 0), some (.getfield 15, 1, 1, 0), none],
  [none, some (.iload_n 2, 0, 0, 0), some (.iaload, 0, 0, 0), some (.invokestatic 44, 7001, 2, 0), none, none, some (.istore_n 1, 0, 0, 0), some (.iinc 2 1, 0, 0, 1), none, none, some (.goto (-20), 6, 0, 0), none, none, some (.iload_n 1, 0, 0, 0), some (.sipush 11264, 0, 0, 11264), none],
  [none, some (.if_icmp .ne 7, 40, 0, 0), none, none, some (.iconst 0, 0, 0, 0), some (.goto 8, 45, 0, 0), none, none, some (.iload_n 1, 0, 0, 0), some (.sipush 1024, 0, 0, 1024), none, none, some (.irem, 0, 0, 0), some (.ireturn, 0, 0, 0), none, none]])
def xm141 : XM := (yX1_sumOfWeights, cX1_sumOfWeights, 3, (some .int), 0, 0, 0, 0, 1, [[some (.iconst 0, 0, 0, 0), some (.istore_n 1, 0, 0, 0), some (.iconst 0, 0, 0, 0), some (.istore_n 2, 0, 0, 0), some (.iload_n 2, 0, 0, 0), some (.bipush 64, 0, 0, 64), none, some (.if_icmp .ge 18, 25, 0, 0), none, none, some (.iload_n 1, 0, 0, 0), some (.aload_n 0, 0, 0, 0), some (.getfield 11, 1, 0, 0), none, none, some (.iload_n 2, 0, 0, 0)],
  [some (.iaload, 0, 0, 0), some (.iadd, 0, 0, 0), some (.istore_n 1, 0, 0, 0), some (.iinc 2 1, 0, 0, 1), none, none, some (.goto (-18), 4, 0, 0), none, none, some (.iload_n 1, 0, 0, 0), some (.ireturn, 0, 0, 0), none, none, none, none, none]])
def xm142 : XM := (yX9_asked, cX9_asked, 1, (some .int), 0, 0, 0, 0, 9, [[some (.aload_n 0, 0, 0, 0), some (.getfield 364, 9, 15, 0), none, none, some (.ireturn, 0, 0, 0), none, none, none, none, none, none, none, none, none, none, none]])
def xm143 : XM := (yX9_set, cX9_set, 1, (some .long), 0, 0, 0, 0, 9, [[some (.aload_n 0, 0, 0, 0), some (.getfield 428, 9, 16, 0), none, none, some (.lreturn, 0, 0, 0), none, none, none, none, none, none, none, none, none, none, none]])
def xm144 : XM := (yX9_upper, cX9_upper, 1, (some .long), 0, 0, 0, 0, 9, [[some (.aload_n 0, 0, 0, 0), some (.getfield 431, 9, 17, 0), none, none, some (.lreturn, 0, 0, 0), none, none, none, none, none, none, none, none, none, none, none]])
def xm145 : XM := (yX9_lower, cX9_lower, 1, (some .long), 0, 0, 0, 0, 9, [[some (.aload_n 0, 0, 0, 0), some (.getfield 72, 9, 18, 0), none, none, some (.lreturn, 0, 0, 0), none, none, none, none, none, none, none, none, none, none, none]])
def xm146 : XM := (yX9_count, cX9_count, 2, (some .int), 2, 42, 0, 0, 9, [[some (.iload_n 1, 0, 0, 0), some (.tableswitch 102 0 7 #[47, 52, 57, 62, 67, 79, 86, 94], 0, 0, 0), none, none, none, none, none, none, none, none, none, none, none, none, none, none],
  [none, none, none, none, none, none, none, none, none, none, none, none, none, none, none, none],
  [none, none, none, none, none, none, none, none, none, none, none, none, none, none, none, none],
  [some (.aload_n 0, 0, 0, 0), some (.getfield 159, 9, 12, 0), none, none, some (.ireturn, 0, 0, 0), some (.aload_n 0, 0, 0, 0), some (.invokevirtual 434, 147, 1, 0), none, none, some (.ireturn, 0, 0, 0), some (.aload_n 0, 0, 0, 0), some (.getfield 267, 9, 10, 0), none, none, some (.ireturn, 0, 0, 0), some (.aload_n 0, 0, 0, 0)],
  [some (.getfield 215, 9, 11, 0), none, none, some (.ireturn, 0, 0, 0), some (.aload_n 0, 0, 0, 0), some (.iconst 4, 0, 0, 4), some (.invokevirtual 437, 148, 2, 0), none, none, some (.aload_n 0, 0, 0, 0), some (.iconst 5, 0, 0, 5), some (.invokevirtual 437, 148, 2, 0), none, none, some (.iadd, 0, 0, 0), some (.ireturn, 0, 0, 0)],
  [some (.aload_n 0, 0, 0, 0), some (.bipush 6, 0, 0, 6), none, some (.invokevirtual 437, 148, 2, 0), none, none, some (.ireturn, 0, 0, 0), some (.aload_n 0, 0, 0, 0), some (.getfield 11, 9, 0, 0), none, none, some (.invokestatic 440, 149, 1, 0), none, none, some (.ireturn, 0, 0, 0), some (.aload_n 0, 0, 0, 0)],
  [some (.getfield 15, 9, 1, 0), none, none, some (.invokestatic 440, 149, 1, 0), none, none, some (.ireturn, 0, 0, 0), some (.iconst (-1), 0, 0, (-1)), some (.ireturn, 0, 0, 0), none, none, none, none, none, none, none]])
def xm147 : XM := (yX9_ableBoats, cX9_ableBoats, 3, (some .int), 1, 20, 0, 0, 9, [[some (.iconst 0, 0, 0, 0), some (.istore_n 1, 0, 0, 0), some (.iconst 0, 0, 0, 0), some (.istore_n 2, 0, 0, 0), some (.iload_n 2, 0, 0, 0), some (.bipush 6, 0, 0, 6), none, some (.if_icmp .ge 29, 36, 0, 0), none, none, some (.iload_n 1, 0, 0, 0), some (.aload_n 0, 0, 0, 0), some (.getfield 27, 9, 3, 0), none, none, some (.iload_n 2, 0, 0, 0)],
  [some (.aaload, 0, 0, 0), some (.invokevirtual 198, 50, 1, 0), none, none, some (.ifCond .eq 7, 27, 0, 0), none, none, some (.iconst 1, 0, 0, 1), some (.goto 4, 28, 0, 0), none, none, some (.iconst 0, 0, 0, 0), some (.iadd, 0, 0, 0), some (.istore_n 1, 0, 0, 0), some (.iinc 2 1, 0, 0, 1), none],
  [none, some (.goto (-29), 4, 0, 0), none, none, some (.iload_n 1, 0, 0, 0), some (.ireturn, 0, 0, 0), none, none, none, none, none, none, none, none, none, none]])
def xm148 : XM := (yX9_boatsOfKind, cX9_boatsOfKind, 4, (some .int), 0, 0, 0, 0, 9, [[some (.iconst 0, 0, 0, 0), some (.istore_n 2, 0, 0, 0), some (.iconst 0, 0, 0, 0), some (.istore_n 3, 0, 0, 0), some (.iload_n 3, 0, 0, 0), some (.bipush 6, 0, 0, 6), none, some (.if_icmp .ge 30, 37, 0, 0), none, none, some (.iload_n 2, 0, 0, 0), some (.aload_n 0, 0, 0, 0), some (.getfield 27, 9, 3, 0), none, none, some (.iload_n 3, 0, 0, 0)],
  [some (.aaload, 0, 0, 0), some (.getfield 170, 0, 1, 0), none, none, some (.iload_n 1, 0, 0, 0), some (.if_icmp .ne 7, 28, 0, 0), none, none, some (.iconst 1, 0, 0, 1), some (.goto 4, 29, 0, 0), none, none, some (.iconst 0, 0, 0, 0), some (.iadd, 0, 0, 0), some (.istore_n 2, 0, 0, 0), some (.iinc 3 1, 0, 0, 1)],
  [none, none, some (.goto (-30), 4, 0, 0), none, none, some (.iload_n 2, 0, 0, 0), some (.ireturn, 0, 0, 0), none, none, none, none, none, none, none, none, none]])
def xm149 : XM := (yX9_rowsThere, cX9_rowsThere, 3, (some .int), 1, 20, 0, 0, 9, [[some (.iconst 0, 0, 0, 0), some (.istore_n 1, 0, 0, 0), some (.iconst 0, 0, 0, 0), some (.istore_n 2, 0, 0, 0), some (.iload_n 2, 0, 0, 0), some (.aload_n 0, 0, 0, 0), some (.arraylength, 0, 0, 0), some (.if_icmp .ge 26, 33, 0, 0), none, none, some (.iload_n 1, 0, 0, 0), some (.aload_n 0, 0, 0, 0), some (.iload_n 2, 0, 0, 0), some (.aaload, 0, 0, 0), some (.invokevirtual 90, 13, 1, 0), none],
  [none, some (.ifCond .eq 7, 24, 0, 0), none, none, some (.iconst 0, 0, 0, 0), some (.goto 4, 25, 0, 0), none, none, some (.iconst 1, 0, 0, 1), some (.iadd, 0, 0, 0), some (.istore_n 1, 0, 0, 0), some (.iinc 2 1, 0, 0, 1), none, none, some (.goto (-26), 4, 0, 0), none],
  [none, some (.iload_n 1, 0, 0, 0), some (.ireturn, 0, 0, 0), none, none, none, none, none, none, none, none, none, none, none, none, none]])
def xm150 : XM := (yX9_finding, cX9_finding, 1, (some .int), 0, 0, 0, 0, 9, [[some (.aload_n 0, 0, 0, 0), some (.getfield 444, 9, 14, 0), none, none, some (.ireturn, 0, 0, 0), none, none, none, none, none, none, none, none, none, none, none]])
def xm151 : XM := (yX9_findings, cX9_findings, 2, (some .int), 0, 0, 0, 0, 9, [[some (.iload_n 1, 0, 0, 0), some (.iconst 1, 0, 0, 1), some (.if_icmp .lt 8, 10, 0, 0), none, none, some (.iload_n 1, 0, 0, 0), some (.iconst 5, 0, 0, 5), some (.if_icmp .le 5, 12, 0, 0), none, none, some (.iconst (-1), 0, 0, (-1)), some (.ireturn, 0, 0, 0), some (.aload_n 0, 0, 0, 0), some (.getfield 64, 9, 9, 0), none, none],
  [some (.iload_n 1, 0, 0, 0), some (.iaload, 0, 0, 0), some (.ireturn, 0, 0, 0), none, none, none, none, none, none, none, none, none, none, none, none, none]])
def xm152 : XM := (yX9_digest, cX9_digest, 5, (some .long), 4, 94, 0, 0, 9, [[some (.ldc2_w 447, 0, 0, 17), none, none, some (.lstore_n 1, 0, 0, 0), some (.iconst 0, 0, 0, 0), some (.istore_n 3, 0, 0, 0), some (.iload_n 3, 0, 0, 0), some (.bipush 7, 0, 0, 7), none, some (.if_icmp .gt 22, 31, 0, 0), none, none, some (.ldc2_w 449, 0, 0, 31), none, none, some (.lload_n 1, 0, 0, 0)],
  [some (.lmul, 0, 0, 0), some (.aload_n 0, 0, 0, 0), some (.iload_n 3, 0, 0, 0), some (.invokevirtual 451, 146, 2, 0), none, none, some (.i2l, 0, 0, 0), some (.ladd, 0, 0, 0), some (.lstore_n 1, 0, 0, 0), some (.iinc 3 1, 0, 0, 1), none, none, some (.goto (-22), 6, 0, 0), none, none, some (.iconst 0, 0, 0, 0)],
  [some (.istore_n 3, 0, 0, 0), some (.iload_n 3, 0, 0, 0), some (.bipush 64, 0, 0, 64), none, some (.if_icmp .ge 42, 78, 0, 0), none, none, some (.iconst 0, 0, 0, 0), some (.istore 4, 0, 0, 0), none, some (.iload 4, 0, 0, 0), none, some (.iconst 4, 0, 0, 4), some (.if_icmp .gt 27, 72, 0, 0), none, none],
  [some (.ldc2_w 449, 0, 0, 31), none, none, some (.lload_n 1, 0, 0, 0), some (.lmul, 0, 0, 0), some (.aload_n 0, 0, 0, 0), some (.getfield 21, 9, 2, 0), none, none, some (.iload_n 3, 0, 0, 0), some (.iload 4, 0, 0, 0), none, some (.invokevirtual 148, 33, 3, 0), none, none, some (.i2l, 0, 0, 0)],
  [some (.ladd, 0, 0, 0), some (.lstore_n 1, 0, 0, 0), some (.iinc 4 1, 0, 0, 1), none, none, some (.goto (-27), 42, 0, 0), none, none, some (.iinc 3 1, 0, 0, 1), none, none, some (.goto (-42), 33, 0, 0), none, none, some (.ldc2_w 449, 0, 0, 31), none],
  [none, some (.lload_n 1, 0, 0, 0), some (.lmul, 0, 0, 0), some (.aload_n 0, 0, 0, 0), some (.getfield 21, 9, 2, 0), none, none, some (.getfield 120, 6, 7, 0), none, none, some (.i2l, 0, 0, 0), some (.ladd, 0, 0, 0), some (.lstore_n 1, 0, 0, 0), some (.aload_n 0, 0, 0, 0), some (.lload_n 1, 0, 0, 0), some (.invokevirtual 454, 153, 2, 0)],
  [none, none, some (.lstore_n 1, 0, 0, 0), some (.aload_n 0, 0, 0, 0), some (.lload_n 1, 0, 0, 0), some (.invokevirtual 458, 154, 2, 0), none, none, some (.lstore_n 1, 0, 0, 0), some (.aload_n 0, 0, 0, 0), some (.lload_n 1, 0, 0, 0), some (.invokevirtual 461, 155, 2, 0), none, none, some (.lstore_n 1, 0, 0, 0), some (.lload_n 1, 0, 0, 0)],
  [some (.aload_n 0, 0, 0, 0), some (.getfield 11, 9, 0, 0), none, none, some (.invokestatic 464, 156, 2, 0), none, none, some (.lstore_n 1, 0, 0, 0), some (.lload_n 1, 0, 0, 0), some (.aload_n 0, 0, 0, 0), some (.getfield 15, 9, 1, 0), none, none, some (.invokestatic 464, 156, 2, 0), none, none],
  [some (.lreturn, 0, 0, 0), none, none, none, none, none, none, none, none, none, none, none, none, none, none, none]])
def xm153 : XM := (yX9_digestBoats, cX9_digestBoats, 7, (some .long), 3, 68, 0, 0, 9, [[some (.lload_n 1, 0, 0, 0), some (.lstore_n 3, 0, 0, 0), some (.iconst 0, 0, 0, 0), some (.istore 5, 0, 0, 0), none, some (.iload 5, 0, 0, 0), none, some (.bipush 6, 0, 0, 6), none, some (.if_icmp .ge 100, 109, 0, 0), none, none, some (.iconst 0, 0, 0, 0), some (.istore 6, 0, 0, 0), none, some (.iload 6, 0, 0, 0)],
  [none, some (.iconst 5, 0, 0, 5), some (.if_icmp .gt 32, 50, 0, 0), none, none, some (.ldc2_w 449, 0, 0, 31), none, none, some (.lload_n 3, 0, 0, 0), some (.lmul, 0, 0, 0), some (.aload_n 0, 0, 0, 0), some (.iload 5, 0, 0, 0), none, some (.aload_n 0, 0, 0, 0), some (.getfield 27, 9, 3, 0), none],
  [none, some (.iload 5, 0, 0, 0), none, some (.aaload, 0, 0, 0), some (.iload 6, 0, 0, 0), none, some (.invokevirtual 166, 42, 4, 0), none, none, some (.i2l, 0, 0, 0), some (.ladd, 0, 0, 0), some (.lstore_n 3, 0, 0, 0), some (.iinc 6 1, 0, 0, 1), none, none, some (.goto (-32), 15, 0, 0)],
  [none, none, some (.ldc2_w 449, 0, 0, 31), none, none, some (.lload_n 3, 0, 0, 0), some (.lmul, 0, 0, 0), some (.aload_n 0, 0, 0, 0), some (.getfield 27, 9, 3, 0), none, none, some (.iload 5, 0, 0, 0), none, some (.aaload, 0, 0, 0), some (.getfield 191, 0, 4, 0), none],
  [none, some (.ladd, 0, 0, 0), some (.lstore_n 3, 0, 0, 0), some (.iconst 0, 0, 0, 0), some (.istore 6, 0, 0, 0), none, some (.iload 6, 0, 0, 0), none, some (.iconst 4, 0, 0, 4), some (.if_icmp .ge 30, 103, 0, 0), none, none, some (.ldc2_w 449, 0, 0, 31), none, none, some (.lload_n 3, 0, 0, 0)],
  [some (.lmul, 0, 0, 0), some (.aload_n 0, 0, 0, 0), some (.getfield 27, 9, 3, 0), none, none, some (.iload 5, 0, 0, 0), none, some (.aaload, 0, 0, 0), some (.getfield 341, 0, 0, 0), none, none, some (.iload 6, 0, 0, 0), none, some (.iaload, 0, 0, 0), some (.i2l, 0, 0, 0), some (.ladd, 0, 0, 0)],
  [some (.lstore_n 3, 0, 0, 0), some (.iinc 6 1, 0, 0, 1), none, none, some (.goto (-30), 70, 0, 0), none, none, some (.iinc 5 1, 0, 0, 1), none, none, some (.goto (-101), 5, 0, 0), none, none, some (.lload_n 3, 0, 0, 0), some (.lreturn, 0, 0, 0), none]])
def xm154 : XM := (yX9_digestWords, cX9_digestWords, 7, (some .long), 1, 21, 0, 0, 9, [[some (.lload_n 1, 0, 0, 0), some (.lstore_n 3, 0, 0, 0), some (.iconst 0, 0, 0, 0), some (.istore 5, 0, 0, 0), none, some (.iload 5, 0, 0, 0), none, some (.aload_n 0, 0, 0, 0), some (.getfield 267, 9, 10, 0), none, none, some (.if_icmp .ge 81, 92, 0, 0), none, none, some (.iconst 0, 0, 0, 0), some (.istore 6, 0, 0, 0)],
  [none, some (.iload 6, 0, 0, 0), none, some (.iconst 3, 0, 0, 3), some (.if_icmp .gt 29, 49, 0, 0), none, none, some (.ldc2_w 449, 0, 0, 31), none, none, some (.lload_n 3, 0, 0, 0), some (.lmul, 0, 0, 0), some (.aload_n 0, 0, 0, 0), some (.getfield 33, 9, 4, 0), none, none],
  [some (.iload 5, 0, 0, 0), none, some (.aaload, 0, 0, 0), some (.iload 6, 0, 0, 0), none, some (.invokevirtual 281, 89, 2, 0), none, none, some (.i2l, 0, 0, 0), some (.ladd, 0, 0, 0), some (.lstore_n 3, 0, 0, 0), some (.iinc 6 1, 0, 0, 1), none, none, some (.goto (-29), 17, 0, 0), none],
  [none, some (.iconst 0, 0, 0, 0), some (.istore 6, 0, 0, 0), none, some (.iload 6, 0, 0, 0), none, some (.bipush 6, 0, 0, 6), none, some (.if_icmp .ge 30, 86, 0, 0), none, none, some (.ldc2_w 449, 0, 0, 31), none, none, some (.lload_n 3, 0, 0, 0), some (.lmul, 0, 0, 0)],
  [some (.aload_n 0, 0, 0, 0), some (.getfield 33, 9, 4, 0), none, none, some (.iload 5, 0, 0, 0), none, some (.aaload, 0, 0, 0), some (.getfield 308, 8, 6, 0), none, none, some (.iload 6, 0, 0, 0), none, some (.iaload, 0, 0, 0), some (.i2l, 0, 0, 0), some (.ladd, 0, 0, 0), some (.lstore_n 3, 0, 0, 0)],
  [some (.iinc 6 1, 0, 0, 1), none, none, some (.goto (-31), 52, 0, 0), none, none, some (.iinc 5 1, 0, 0, 1), none, none, some (.goto (-84), 5, 0, 0), none, none, some (.lload_n 3, 0, 0, 0), some (.lreturn, 0, 0, 0), none, none]])
def xm155 : XM := (yX9_digestLooks, cX9_digestLooks, 7, (some .long), 1, 21, 0, 0, 9, [[some (.lload_n 1, 0, 0, 0), some (.lstore_n 3, 0, 0, 0), some (.iconst 0, 0, 0, 0), some (.istore 5, 0, 0, 0), none, some (.iload 5, 0, 0, 0), none, some (.aload_n 0, 0, 0, 0), some (.getfield 215, 9, 11, 0), none, none, some (.if_icmp .ge 44, 55, 0, 0), none, none, some (.iconst 0, 0, 0, 0), some (.istore 6, 0, 0, 0)],
  [none, some (.iload 6, 0, 0, 0), none, some (.iconst 3, 0, 0, 3), some (.if_icmp .gt 29, 49, 0, 0), none, none, some (.ldc2_w 449, 0, 0, 31), none, none, some (.lload_n 3, 0, 0, 0), some (.lmul, 0, 0, 0), some (.aload_n 0, 0, 0, 0), some (.getfield 39, 9, 5, 0), none, none],
  [some (.iload 5, 0, 0, 0), none, some (.aaload, 0, 0, 0), some (.iload 6, 0, 0, 0), none, some (.invokevirtual 231, 75, 2, 0), none, none, some (.i2l, 0, 0, 0), some (.ladd, 0, 0, 0), some (.lstore_n 3, 0, 0, 0), some (.iinc 6 1, 0, 0, 1), none, none, some (.goto (-29), 17, 0, 0), none],
  [none, some (.iinc 5 1, 0, 0, 1), none, none, some (.goto (-47), 5, 0, 0), none, none, some (.lload_n 3, 0, 0, 0), some (.lreturn, 0, 0, 0), none, none, none, none, none, none, none]])
def xm156 : XM := (yX9_digestRows, cX9_digestRows, 7, (some .long), 0, 0, 0, 0, 9, [[some (.lload_n 0, 0, 0, 0), some (.lstore_n 3, 0, 0, 0), some (.iconst 0, 0, 0, 0), some (.istore 5, 0, 0, 0), none, some (.iload 5, 0, 0, 0), none, some (.aload_n 2, 0, 0, 0), some (.arraylength, 0, 0, 0), some (.if_icmp .ge 63, 72, 0, 0), none, none, some (.ldc2_w 449, 0, 0, 31), none, none, some (.lload_n 3, 0, 0, 0)],
  [some (.lmul, 0, 0, 0), some (.aload_n 2, 0, 0, 0), some (.iload 5, 0, 0, 0), none, some (.aaload, 0, 0, 0), some (.getfield 104, 4, 1, 0), none, none, some (.i2l, 0, 0, 0), some (.ladd, 0, 0, 0), some (.lstore_n 3, 0, 0, 0), some (.iconst 0, 0, 0, 0), some (.istore 6, 0, 0, 0), none, some (.iload 6, 0, 0, 0), none],
  [some (.aload_n 2, 0, 0, 0), some (.iload 5, 0, 0, 0), none, some (.aaload, 0, 0, 0), some (.getfield 104, 4, 1, 0), none, none, some (.if_icmp .ge 27, 66, 0, 0), none, none, some (.ldc2_w 449, 0, 0, 31), none, none, some (.lload_n 3, 0, 0, 0), some (.lmul, 0, 0, 0), some (.aload_n 2, 0, 0, 0)],
  [some (.iload 5, 0, 0, 0), none, some (.aaload, 0, 0, 0), some (.getfield 98, 4, 0, 0), none, none, some (.iload 6, 0, 0, 0), none, some (.iaload, 0, 0, 0), some (.i2l, 0, 0, 0), some (.ladd, 0, 0, 0), some (.lstore_n 3, 0, 0, 0), some (.iinc 6 1, 0, 0, 1), none, none, some (.goto (-33), 30, 0, 0)],
  [none, none, some (.iinc 5 1, 0, 0, 1), none, none, some (.goto (-64), 5, 0, 0), none, none, some (.lload_n 3, 0, 0, 0), some (.lreturn, 0, 0, 0), none, none, none, none, none, none]])
def xm157 : XM := (yX10_init, cX10_init, 2, none, 1, 24, 60, 4000, 10, [[some (.aload_n 0, 0, 0, 0), some (.invokespecial 1, 9999, 0, 0), none, none, some (.aload_n 0, 0, 0, 0), some (.bipush 6, 0, 0, 6), none, some (.newarray .int, 0, 0, 0), none, some (.putfield 7, 10, 1, 0), none, none, some (.aload_n 0, 0, 0, 0), some (.lconst 1, 0, 0, 1), some (.putfield 13, 10, 5, 0), none],
  [none, some (.aload_n 0, 0, 0, 0), some (.bipush 6, 0, 0, 6), none, some (.newarray .int, 0, 0, 0), none, some (.putfield 17, 10, 7, 0), none, none, some (.aload_n 0, 0, 0, 0), some (.sipush 240, 0, 0, 240), none, none, some (.newarray .int, 0, 0, 0), none, some (.putfield 20, 10, 8, 0)],
  [none, none, some (.aload_n 0, 0, 0, 0), some (.bipush 40, 0, 0, 40), none, some (.newarray .int, 0, 0, 0), none, some (.putfield 23, 10, 9, 0), none, none, some (.aload_n 0, 0, 0, 0), some (.iconst 4, 0, 0, 4), some (.newarray .int, 0, 0, 0), none, some (.putfield 26, 10, 10, 0), none],
  [none, some (.aload_n 0, 0, 0, 0), some (.sipush 160, 0, 0, 160), none, none, some (.newarray .int, 0, 0, 0), none, some (.putfield 29, 10, 11, 0), none, none, some (.aload_n 0, 0, 0, 0), some (.bipush 64, 0, 0, 64), none, some (.newarray .boolean, 2, 0, 0), none, some (.putfield 32, 10, 12, 0)],
  [none, none, some (.aload_n 0, 0, 0, 0), some (.bipush 64, 0, 0, 64), none, some (.newarray .int, 0, 0, 0), none, some (.putfield 36, 10, 13, 0), none, none, some (.aload_n 0, 0, 0, 0), some (.bipush 64, 0, 0, 64), none, some (.newarray .int, 0, 0, 0), none, some (.putfield 39, 10, 14, 0)],
  [none, none, some (.aload_n 0, 0, 0, 0), some (.bipush 64, 0, 0, 64), none, some (.newarray .int, 0, 0, 0), none, some (.putfield 42, 10, 15, 0), none, none, some (.aload_n 0, 0, 0, 0), some (.bipush 64, 0, 0, 64), none, some (.newarray .int, 0, 0, 0), none, some (.putfield 45, 10, 16, 0)],
  [none, none, some (.aload_n 0, 0, 0, 0), some (.iconst 1, 0, 0, 1), some (.putfield 48, 10, 18, 0), none, none, some (.aload_n 0, 0, 0, 0), some (.bipush 64, 0, 0, 64), none, some (.newarray .int, 0, 0, 0), none, some (.putfield 52, 10, 19, 0), none, none, some (.aload_n 0, 0, 0, 0)],
  [some (.bipush 6, 0, 0, 6), none, some (.newarray .int, 0, 0, 0), none, some (.putfield 55, 10, 20, 0), none, none, some (.aload_n 0, 0, 0, 0), some (.bipush 6, 0, 0, 6), none, some (.newarray .int, 0, 0, 0), none, some (.putfield 58, 10, 21, 0), none, none, some (.aload_n 0, 0, 0, 0)],
  [some (.bipush 6, 0, 0, 6), none, some (.newarray .int, 0, 0, 0), none, some (.putfield 61, 10, 22, 0), none, none, some (.aload_n 0, 0, 0, 0), some (.bipush 6, 0, 0, 6), none, some (.newarray .long, 1, 0, 0), none, some (.putfield 64, 10, 23, 0), none, none, some (.aload_n 0, 0, 0, 0)],
  [some (.bipush 6, 0, 0, 6), none, some (.newarray .int, 0, 0, 0), none, some (.putfield 68, 10, 24, 0), none, none, some (.aload_n 0, 0, 0, 0), some (.bipush 6, 0, 0, 6), none, some (.newarray .int, 0, 0, 0), none, some (.putfield 71, 10, 25, 0), none, none, some (.aload_n 0, 0, 0, 0)],
  [some (.bipush 6, 0, 0, 6), none, some (.newarray .int, 0, 0, 0), none, some (.putfield 74, 10, 26, 0), none, none, some (.aload_n 0, 0, 0, 0), some (.bipush 6, 0, 0, 6), none, some (.newarray .int, 0, 0, 0), none, some (.putfield 77, 10, 27, 0), none, none, some (.aload_n 0, 0, 0, 0)],
  [some (.bipush 6, 0, 0, 6), none, some (.newarray .int, 0, 0, 0), none, some (.putfield 80, 10, 28, 0), none, none, some (.aload_n 0, 0, 0, 0), some (.bipush 6, 0, 0, 6), none, some (.newarray .int, 0, 0, 0), none, some (.putfield 83, 10, 29, 0), none, none, some (.aload_n 0, 0, 0, 0)],
  [some (.bipush 40, 0, 0, 40), none, some (.newarray .int, 0, 0, 0), none, some (.putfield 86, 10, 31, 0), none, none, some (.aload_n 0, 0, 0, 0), some (.bipush 40, 0, 0, 40), none, some (.newarray .int, 0, 0, 0), none, some (.putfield 89, 10, 32, 0), none, none, some (.aload_n 0, 0, 0, 0)],
  [some (.bipush 40, 0, 0, 40), none, some (.newarray .int, 0, 0, 0), none, some (.putfield 92, 10, 33, 0), none, none, some (.aload_n 0, 0, 0, 0), some (.bipush 40, 0, 0, 40), none, some (.newarray .int, 0, 0, 0), none, some (.putfield 95, 10, 34, 0), none, none, some (.aload_n 0, 0, 0, 0)],
  [some (.bipush 40, 0, 0, 40), none, some (.newarray .int, 0, 0, 0), none, some (.putfield 98, 10, 35, 0), none, none, some (.aload_n 0, 0, 0, 0), some (.bipush 40, 0, 0, 40), none, some (.newarray .int, 0, 0, 0), none, some (.putfield 101, 10, 37, 0), none, none, some (.aload_n 0, 0, 0, 0)],
  [some (.bipush 40, 0, 0, 40), none, some (.newarray .int, 0, 0, 0), none, some (.putfield 104, 10, 38, 0), none, none, some (.aload_n 0, 0, 0, 0), some (.bipush 40, 0, 0, 40), none, some (.newarray .int, 0, 0, 0), none, some (.putfield 107, 10, 39, 0), none, none, some (.aload_n 0, 0, 0, 0)],
  [some (.bipush 40, 0, 0, 40), none, some (.newarray .int, 0, 0, 0), none, some (.putfield 110, 10, 40, 0), none, none, some (.aload_n 0, 0, 0, 0), some (.bipush 40, 0, 0, 40), none, some (.newarray .long, 1, 0, 0), none, some (.putfield 113, 10, 41, 0), none, none, some (.aload_n 0, 0, 0, 0)],
  [some (.sipush 240, 0, 0, 240), none, none, some (.newarray .int, 0, 0, 0), none, some (.putfield 116, 10, 42, 0), none, none, some (.aload_n 0, 0, 0, 0), some (.sipush 240, 0, 0, 240), none, none, some (.newarray .int, 0, 0, 0), none, some (.putfield 119, 10, 43, 0), none],
  [none, some (.aload_n 0, 0, 0, 0), some (.bipush 24, 0, 0, 24), none, some (.newarray .int, 0, 0, 0), none, some (.putfield 122, 10, 44, 0), none, none, some (.aload_n 0, 0, 0, 0), some (.iconst 4, 0, 0, 4), some (.newarray .int, 0, 0, 0), none, some (.putfield 125, 10, 45, 0), none, none],
  [some (.aload_n 0, 0, 0, 0), some (.iconst 3, 0, 0, 3), some (.newarray .int, 0, 0, 0), none, some (.putfield 128, 10, 46, 0), none, none, some (.aload_n 0, 0, 0, 0), some (.bipush 21, 0, 0, 21), none, some (.newarray .long, 1, 0, 0), none, some (.putfield 131, 10, 47, 0), none, none, some (.aload_n 0, 0, 0, 0)],
  [some (.bipush 64, 0, 0, 64), none, some (.newarray .long, 1, 0, 0), none, some (.putfield 134, 10, 48, 0), none, none, some (.aload_n 0, 0, 0, 0), some (.bipush 64, 0, 0, 64), none, some (.newarray .long, 1, 0, 0), none, some (.putfield 137, 10, 49, 0), none, none, some (.iconst 0, 0, 0, 0)],
  [some (.istore_n 1, 0, 0, 0), some (.iload_n 1, 0, 0, 0), some (.bipush 6, 0, 0, 6), none, some (.if_icmp .ge 17, 357, 0, 0), none, none, some (.aload_n 0, 0, 0, 0), some (.getfield 17, 10, 7, 0), none, none, some (.iload_n 1, 0, 0, 0), some (.bipush (-9), 0, 0, (-9)), none, some (.iastore, 0, 0, 0), some (.iinc 1 1, 0, 0, 1)],
  [none, none, some (.goto (-17), 337, 0, 0), none, none, some (.iconst 0, 0, 0, 0), some (.istore_n 1, 0, 0, 0), some (.iload_n 1, 0, 0, 0), some (.iconst 4, 0, 0, 4), some (.if_icmp .ge 17, 378, 0, 0), none, none, some (.aload_n 0, 0, 0, 0), some (.getfield 26, 10, 10, 0), none, none],
  [some (.iload_n 1, 0, 0, 0), some (.bipush (-9), 0, 0, (-9)), none, some (.iastore, 0, 0, 0), some (.iinc 1 1, 0, 0, 1), none, none, some (.goto (-16), 359, 0, 0), none, none, some (.iconst 0, 0, 0, 0), some (.istore_n 1, 0, 0, 0), some (.iload_n 1, 0, 0, 0), some (.bipush 64, 0, 0, 64), none, some (.if_icmp .ge 24, 407, 0, 0)],
  [none, none, some (.aload_n 0, 0, 0, 0), some (.getfield 39, 10, 14, 0), none, none, some (.iload_n 1, 0, 0, 0), some (.iconst 1, 0, 0, 1), some (.iastore, 0, 0, 0), some (.aload_n 0, 0, 0, 0), some (.getfield 45, 10, 16, 0), none, none, some (.iload_n 1, 0, 0, 0), some (.bipush (-9), 0, 0, (-9)), none],
  [some (.iastore, 0, 0, 0), some (.iinc 1 1, 0, 0, 1), none, none, some (.goto (-24), 380, 0, 0), none, none, some (.iconst 0, 0, 0, 0), some (.istore_n 1, 0, 0, 0), some (.iload_n 1, 0, 0, 0), some (.bipush 6, 0, 0, 6), none, some (.if_icmp .ge 40, 452, 0, 0), none, none, some (.aload_n 0, 0, 0, 0)],
  [some (.getfield 61, 10, 22, 0), none, none, some (.iload_n 1, 0, 0, 0), some (.bipush 100, 0, 0, 100), none, some (.iastore, 0, 0, 0), some (.aload_n 0, 0, 0, 0), some (.getfield 64, 10, 23, 0), none, none, some (.iload_n 1, 0, 0, 0), some (.lconst 1, 0, 0, 1), some (.lastore, 0, 0, 0), some (.aload_n 0, 0, 0, 0), some (.getfield 68, 10, 24, 0)],
  [none, none, some (.iload_n 1, 0, 0, 0), some (.bipush (-9), 0, 0, (-9)), none, some (.iastore, 0, 0, 0), some (.aload_n 0, 0, 0, 0), some (.getfield 74, 10, 26, 0), none, none, some (.iload_n 1, 0, 0, 0), some (.bipush (-9), 0, 0, (-9)), none, some (.iastore, 0, 0, 0), some (.iinc 1 1, 0, 0, 1), none],
  [none, some (.goto (-40), 409, 0, 0), none, none, some (.iconst 0, 0, 0, 0), some (.istore_n 1, 0, 0, 0), some (.iload_n 1, 0, 0, 0), some (.bipush 24, 0, 0, 24), none, some (.if_icmp .ge 17, 474, 0, 0), none, none, some (.aload_n 0, 0, 0, 0), some (.getfield 122, 10, 44, 0), none, none],
  [some (.iload_n 1, 0, 0, 0), some (.bipush (-9), 0, 0, (-9)), none, some (.iastore, 0, 0, 0), some (.iinc 1 1, 0, 0, 1), none, none, some (.goto (-17), 454, 0, 0), none, none, some (.return_, 0, 0, 0), none, none, none, none, none]])
def xm158 : XM := (yX10_row, cX10_row, 4, (some .int), 2, 42, 0, 0, 10, [[some (.iload_n 1, 0, 0, 0), some (.invokestatic 154, 159, 1, 0), none, none, some (.ifCond .eq 9, 13, 0, 0), none, none, some (.iload_n 2, 0, 0, 0), some (.bipush 40, 0, 0, 40), none, some (.if_icmp .le 5, 15, 0, 0), none, none, some (.iconst (-1), 0, 0, (-1)), some (.ireturn, 0, 0, 0), some (.iload_n 2, 0, 0, 0)],
  [some (.ifCond .ge 9, 25, 0, 0), none, none, some (.aload_n 0, 0, 0, 0), some (.iconst 5, 0, 0, 5), some (.invokevirtual 158, 161, 2, 0), none, none, some (.ireturn, 0, 0, 0), some (.aload_n 0, 0, 0, 0), some (.getfield 17, 10, 7, 0), none, none, some (.iload_n 1, 0, 0, 0), some (.iload_n 2, 0, 0, 0), some (.iastore, 0, 0, 0)],
  [some (.iconst 0, 0, 0, 0), some (.istore_n 3, 0, 0, 0), some (.iload_n 3, 0, 0, 0), some (.bipush 40, 0, 0, 40), none, some (.if_icmp .ge 21, 58, 0, 0), none, none, some (.aload_n 0, 0, 0, 0), some (.getfield 20, 10, 8, 0), none, none, some (.bipush 40, 0, 0, 40), none, some (.iload_n 1, 0, 0, 0), some (.imul, 0, 0, 0)],
  [some (.iload_n 3, 0, 0, 0), some (.iadd, 0, 0, 0), some (.iconst 0, 0, 0, 0), some (.iastore, 0, 0, 0), some (.iinc 3 1, 0, 0, 1), none, none, some (.goto (-21), 34, 0, 0), none, none, some (.iload_n 2, 0, 0, 0), some (.ireturn, 0, 0, 0), none, none, none, none]])
def xm159 : XM := (yX10_isRow, cX10_isRow, 1, (some .boolean), 1, 22, 0, 0, 10, [[some (.iload_n 0, 0, 0, 0), some (.iconst 0, 0, 0, 0), some (.iconst 5, 0, 0, 5), some (.invokestatic 146, 160, 3, 0), none, none, some (.ireturn, 0, 0, 0), none, none, none, none, none, none, none, none, none]])
def xm160 : XM := (yX10_in, cX10_in, 3, (some .boolean), 0, 0, 0, 0, 10, [[some (.iload_n 0, 0, 0, 0), some (.iload_n 1, 0, 0, 0), some (.if_icmp .lt 12, 14, 0, 0), none, none, some (.iload_n 0, 0, 0, 0), some (.iload_n 2, 0, 0, 0), some (.if_icmp .gt 7, 14, 0, 0), none, none, some (.iconst 1, 0, 0, 1), some (.goto 4, 15, 0, 0), none, none, some (.iconst 0, 0, 0, 0), some (.ireturn, 0, 0, 0)]])
def xm161 : XM := (yX10_meets, cX10_meets, 2, (some .int), 0, 0, 0, 0, 10, [[some (.aload_n 0, 0, 0, 0), some (.iload_n 1, 0, 0, 0), some (.putfield 140, 10, 0, 0), none, none, some (.aload_n 0, 0, 0, 0), some (.getfield 7, 10, 1, 0), none, none, some (.iload_n 1, 0, 0, 0), some (.dup2, 0, 0, 0), some (.iaload, 0, 0, 0), some (.iconst 1, 0, 0, 1), some (.iadd, 0, 0, 0), some (.iastore, 0, 0, 0), some (.bipush (-3), 0, 0, (-3))],
  [none, some (.ireturn, 0, 0, 0), none, none, none, none, none, none, none, none, none, none, none, none, none, none]])
def xm162 : XM := (yX10_lay, cX10_lay, 5, (some .int), 3, 63, 0, 0, 10, [[some (.aload_n 0, 0, 0, 0), some (.iload_n 1, 0, 0, 0), some (.invokevirtual 165, 163, 2, 0), none, none, some (.istore 4, 0, 0, 0), none, some (.iload 4, 0, 0, 0), none, some (.ifCond .ge 6, 15, 0, 0), none, none, some (.iload 4, 0, 0, 0), none, some (.ireturn, 0, 0, 0), some (.iload_n 2, 0, 0, 0)],
  [some (.iconst 0, 0, 0, 0), some (.aload_n 0, 0, 0, 0), some (.getfield 17, 10, 7, 0), none, none, some (.iload_n 1, 0, 0, 0), some (.iaload, 0, 0, 0), some (.iconst 1, 0, 0, 1), some (.isub, 0, 0, 0), some (.invokestatic 146, 160, 3, 0), none, none, some (.ifCond .ne 9, 37, 0, 0), none, none, some (.aload_n 0, 0, 0, 0)],
  [some (.iconst 2, 0, 0, 2), some (.invokevirtual 158, 161, 2, 0), none, none, some (.ireturn, 0, 0, 0), some (.aload_n 0, 0, 0, 0), some (.aload_n 0, 0, 0, 0), some (.iload_n 1, 0, 0, 0), some (.iload_n 2, 0, 0, 0), some (.invokevirtual 168, 164, 3, 0), none, none, some (.putfield 143, 10, 2, 0), none, none, some (.aload_n 0, 0, 0, 0)],
  [some (.getfield 20, 10, 8, 0), none, none, some (.bipush 40, 0, 0, 40), none, some (.iload_n 1, 0, 0, 0), some (.imul, 0, 0, 0), some (.iload_n 2, 0, 0, 0), some (.iadd, 0, 0, 0), some (.iload_n 3, 0, 0, 0), some (.iastore, 0, 0, 0), some (.iconst 1, 0, 0, 1), some (.ireturn, 0, 0, 0), none, none, none]])
def xm163 : XM := (yX10_askedRow, cX10_askedRow, 2, (some .int), 2, 42, 0, 0, 10, [[some (.iload_n 1, 0, 0, 0), some (.invokestatic 154, 159, 1, 0), none, none, some (.ifCond .ne 7, 11, 0, 0), none, none, some (.iconst (-1), 0, 0, (-1)), some (.goto 21, 29, 0, 0), none, none, some (.aload_n 0, 0, 0, 0), some (.getfield 17, 10, 7, 0), none, none, some (.iload_n 1, 0, 0, 0)],
  [some (.iaload, 0, 0, 0), some (.ifCond .ge 11, 28, 0, 0), none, none, some (.aload_n 0, 0, 0, 0), some (.iconst 1, 0, 0, 1), some (.invokevirtual 158, 161, 2, 0), none, none, some (.goto 4, 29, 0, 0), none, none, some (.iconst 0, 0, 0, 0), some (.ireturn, 0, 0, 0), none, none]])
def xm164 : XM := (yX10_rowAt, cX10_rowAt, 3, (some .int), 0, 0, 0, 0, 10, [[some (.aload_n 0, 0, 0, 0), some (.getfield 20, 10, 8, 0), none, none, some (.bipush 40, 0, 0, 40), none, some (.iload_n 1, 0, 0, 0), some (.imul, 0, 0, 0), some (.iload_n 2, 0, 0, 0), some (.iadd, 0, 0, 0), some (.iaload, 0, 0, 0), some (.ireturn, 0, 0, 0), none, none, none, none]])
def xm165 : XM := (yX10_tear, cX10_tear, 3, (some .int), 3, 63, 0, 0, 10, [[some (.aload_n 0, 0, 0, 0), some (.iload_n 1, 0, 0, 0), some (.invokevirtual 165, 163, 2, 0), none, none, some (.istore_n 2, 0, 0, 0), some (.iload_n 2, 0, 0, 0), some (.ifCond .ge 5, 12, 0, 0), none, none, some (.iload_n 2, 0, 0, 0), some (.ireturn, 0, 0, 0), some (.aload_n 0, 0, 0, 0), some (.getfield 17, 10, 7, 0), none, none],
  [some (.iload_n 1, 0, 0, 0), some (.bipush (-9), 0, 0, (-9)), none, some (.iastore, 0, 0, 0), some (.iconst 1, 0, 0, 1), some (.ireturn, 0, 0, 0), none, none, none, none, none, none, none, none, none, none]])
def xm166 : XM := (yX10_copy, cX10_copy, 7, (some .int), 2, 42, 0, 0, 10, [[some (.iload_n 1, 0, 0, 0), some (.invokestatic 154, 159, 1, 0), none, none, some (.ifCond .eq 10, 14, 0, 0), none, none, some (.iload_n 3, 0, 0, 0), some (.invokestatic 154, 159, 1, 0), none, none, some (.ifCond .ne 5, 16, 0, 0), none, none, some (.iconst (-1), 0, 0, (-1)), some (.ireturn, 0, 0, 0)],
  [some (.iload 5, 0, 0, 0), none, some (.ifCond .ge 9, 27, 0, 0), none, none, some (.aload_n 0, 0, 0, 0), some (.iconst 5, 0, 0, 5), some (.invokevirtual 158, 161, 2, 0), none, none, some (.ireturn, 0, 0, 0), some (.aload_n 0, 0, 0, 0), some (.getfield 17, 10, 7, 0), none, none, some (.iload_n 1, 0, 0, 0)],
  [some (.iaload, 0, 0, 0), some (.ifCond .lt 12, 45, 0, 0), none, none, some (.aload_n 0, 0, 0, 0), some (.getfield 17, 10, 7, 0), none, none, some (.iload_n 3, 0, 0, 0), some (.iaload, 0, 0, 0), some (.ifCond .ge 9, 51, 0, 0), none, none, some (.aload_n 0, 0, 0, 0), some (.iconst 1, 0, 0, 1), some (.invokevirtual 158, 161, 2, 0)],
  [none, none, some (.ireturn, 0, 0, 0), some (.iload_n 2, 0, 0, 0), some (.ifCond .lt 43, 95, 0, 0), none, none, some (.iload 4, 0, 0, 0), none, some (.ifCond .lt 38, 95, 0, 0), none, none, some (.iload_n 2, 0, 0, 0), some (.i2l, 0, 0, 0), some (.iload 5, 0, 0, 0), none],
  [some (.i2l, 0, 0, 0), some (.ladd, 0, 0, 0), some (.aload_n 0, 0, 0, 0), some (.getfield 17, 10, 7, 0), none, none, some (.iload_n 1, 0, 0, 0), some (.iaload, 0, 0, 0), some (.i2l, 0, 0, 0), some (.lcmp, 0, 0, 0), some (.ifCond .gt 21, 95, 0, 0), none, none, some (.iload 4, 0, 0, 0), none, some (.i2l, 0, 0, 0)],
  [some (.iload 5, 0, 0, 0), none, some (.i2l, 0, 0, 0), some (.ladd, 0, 0, 0), some (.aload_n 0, 0, 0, 0), some (.getfield 17, 10, 7, 0), none, none, some (.iload_n 3, 0, 0, 0), some (.iaload, 0, 0, 0), some (.i2l, 0, 0, 0), some (.lcmp, 0, 0, 0), some (.ifCond .le 9, 101, 0, 0), none, none, some (.aload_n 0, 0, 0, 0)],
  [some (.iconst 2, 0, 0, 2), some (.invokevirtual 158, 161, 2, 0), none, none, some (.ireturn, 0, 0, 0), some (.iconst 0, 0, 0, 0), some (.istore 6, 0, 0, 0), none, some (.iload 6, 0, 0, 0), none, some (.iload 5, 0, 0, 0), none, some (.if_icmp .ge 25, 133, 0, 0), none, none, some (.aload_n 0, 0, 0, 0)],
  [some (.getfield 23, 10, 9, 0), none, none, some (.iload 6, 0, 0, 0), none, some (.aload_n 0, 0, 0, 0), some (.iload_n 1, 0, 0, 0), some (.iload_n 2, 0, 0, 0), some (.iload 6, 0, 0, 0), none, some (.iadd, 0, 0, 0), some (.invokevirtual 168, 164, 3, 0), none, none, some (.iastore, 0, 0, 0), some (.iinc 6 1, 0, 0, 1)],
  [none, none, some (.goto (-26), 104, 0, 0), none, none, some (.iconst 0, 0, 0, 0), some (.istore 6, 0, 0, 0), none, some (.iload 6, 0, 0, 0), none, some (.iload 5, 0, 0, 0), none, some (.if_icmp .ge 31, 171, 0, 0), none, none, some (.aload_n 0, 0, 0, 0)],
  [some (.getfield 20, 10, 8, 0), none, none, some (.bipush 40, 0, 0, 40), none, some (.iload_n 3, 0, 0, 0), some (.imul, 0, 0, 0), some (.iload 4, 0, 0, 0), none, some (.iadd, 0, 0, 0), some (.iload 6, 0, 0, 0), none, some (.iadd, 0, 0, 0), some (.aload_n 0, 0, 0, 0), some (.getfield 23, 10, 9, 0), none],
  [none, some (.iload 6, 0, 0, 0), none, some (.iaload, 0, 0, 0), some (.iastore, 0, 0, 0), some (.iinc 6 1, 0, 0, 1), none, none, some (.goto (-32), 136, 0, 0), none, none, some (.iconst 1, 0, 0, 1), some (.ireturn, 0, 0, 0), none, none, none]])
def xm167 : XM := (yX10_mean, cX10_mean, 6, (some .int), 3, 63, 0, 0, 10, [[some (.aload_n 0, 0, 0, 0), some (.iload_n 1, 0, 0, 0), some (.invokevirtual 165, 163, 2, 0), none, none, some (.istore_n 2, 0, 0, 0), some (.iload_n 2, 0, 0, 0), some (.ifCond .ge 5, 12, 0, 0), none, none, some (.iload_n 2, 0, 0, 0), some (.ireturn, 0, 0, 0), some (.lconst 0, 0, 0, 0), some (.lstore_n 3, 0, 0, 0), some (.iconst 0, 0, 0, 0), some (.istore 5, 0, 0, 0)],
  [none, some (.iload 5, 0, 0, 0), none, some (.aload_n 0, 0, 0, 0), some (.getfield 17, 10, 7, 0), none, none, some (.iload_n 1, 0, 0, 0), some (.iaload, 0, 0, 0), some (.if_icmp .ge 20, 45, 0, 0), none, none, some (.lload_n 3, 0, 0, 0), some (.aload_n 0, 0, 0, 0), some (.iload_n 1, 0, 0, 0), some (.iload 5, 0, 0, 0)],
  [none, some (.invokevirtual 168, 164, 3, 0), none, none, some (.i2l, 0, 0, 0), some (.ladd, 0, 0, 0), some (.lstore_n 3, 0, 0, 0), some (.iinc 5 1, 0, 0, 1), none, none, some (.goto (-25), 17, 0, 0), none, none, some (.aload_n 0, 0, 0, 0), some (.getfield 17, 10, 7, 0), none],
  [none, some (.iload_n 1, 0, 0, 0), some (.iaload, 0, 0, 0), some (.ifCond .ne 11, 62, 0, 0), none, none, some (.aload_n 0, 0, 0, 0), some (.iconst 4, 0, 0, 4), some (.invokevirtual 158, 161, 2, 0), none, none, some (.goto 18, 77, 0, 0), none, none, some (.aload_n 0, 0, 0, 0), some (.lload_n 3, 0, 0, 0)],
  [some (.aload_n 0, 0, 0, 0), some (.getfield 17, 10, 7, 0), none, none, some (.iload_n 1, 0, 0, 0), some (.iaload, 0, 0, 0), some (.i2l, 0, 0, 0), some (.ldiv, 0, 0, 0), some (.l2i, 0, 0, 0), some (.iconst 1, 0, 0, 1), some (.invokevirtual 172, 168, 3, 0), none, none, some (.ireturn, 0, 0, 0), none, none]])
def xm168 : XM := (yX10_ask, cX10_ask, 3, (some .int), 0, 0, 0, 0, 10, [[some (.aload_n 0, 0, 0, 0), some (.iload_n 1, 0, 0, 0), some (.putfield 143, 10, 2, 0), none, none, some (.iload_n 2, 0, 0, 0), some (.ireturn, 0, 0, 0), none, none, none, none, none, none, none, none, none]])
def xm169 : XM := (yX10_text, cX10_text, 4, (some .int), 2, 42, 0, 0, 10, [[some (.iload_n 1, 0, 0, 0), some (.invokestatic 162, 170, 1, 0), none, none, some (.ifCond .eq 9, 13, 0, 0), none, none, some (.iload_n 2, 0, 0, 0), some (.bipush 40, 0, 0, 40), none, some (.if_icmp .le 5, 15, 0, 0), none, none, some (.iconst (-1), 0, 0, (-1)), some (.ireturn, 0, 0, 0), some (.iload_n 2, 0, 0, 0)],
  [some (.ifCond .ge 9, 25, 0, 0), none, none, some (.aload_n 0, 0, 0, 0), some (.iconst 5, 0, 0, 5), some (.invokevirtual 158, 161, 2, 0), none, none, some (.ireturn, 0, 0, 0), some (.aload_n 0, 0, 0, 0), some (.getfield 26, 10, 10, 0), none, none, some (.iload_n 1, 0, 0, 0), some (.iload_n 2, 0, 0, 0), some (.iastore, 0, 0, 0)],
  [some (.iconst 0, 0, 0, 0), some (.istore_n 3, 0, 0, 0), some (.iload_n 3, 0, 0, 0), some (.bipush 40, 0, 0, 40), none, some (.if_icmp .ge 22, 59, 0, 0), none, none, some (.aload_n 0, 0, 0, 0), some (.getfield 29, 10, 11, 0), none, none, some (.bipush 40, 0, 0, 40), none, some (.iload_n 1, 0, 0, 0), some (.imul, 0, 0, 0)],
  [some (.iload_n 3, 0, 0, 0), some (.iadd, 0, 0, 0), some (.bipush 32, 0, 0, 32), none, some (.iastore, 0, 0, 0), some (.iinc 3 1, 0, 0, 1), none, none, some (.goto (-22), 34, 0, 0), none, none, some (.iload_n 2, 0, 0, 0), some (.ireturn, 0, 0, 0), none, none, none]])
def xm170 : XM := (yX10_isText, cX10_isText, 1, (some .boolean), 1, 22, 0, 0, 10, [[some (.iload_n 0, 0, 0, 0), some (.iconst 0, 0, 0, 0), some (.iconst 3, 0, 0, 3), some (.invokestatic 146, 160, 3, 0), none, none, some (.ireturn, 0, 0, 0), none, none, none, none, none, none, none, none, none]])
def xm171 : XM := (yX10_put, cX10_put, 6, (some .int), 3, 63, 0, 0, 10, [[some (.aload_n 0, 0, 0, 0), some (.iload_n 1, 0, 0, 0), some (.invokevirtual 175, 172, 2, 0), none, none, some (.istore 4, 0, 0, 0), none, some (.iload 4, 0, 0, 0), none, some (.ifCond .ge 6, 15, 0, 0), none, none, some (.iload 4, 0, 0, 0), none, some (.ireturn, 0, 0, 0), some (.iload_n 2, 0, 0, 0)],
  [some (.iconst 0, 0, 0, 0), some (.aload_n 0, 0, 0, 0), some (.getfield 26, 10, 10, 0), none, none, some (.iload_n 1, 0, 0, 0), some (.iaload, 0, 0, 0), some (.iconst 1, 0, 0, 1), some (.isub, 0, 0, 0), some (.invokestatic 146, 160, 3, 0), none, none, some (.ifCond .ne 9, 37, 0, 0), none, none, some (.aload_n 0, 0, 0, 0)],
  [some (.iconst 2, 0, 0, 2), some (.invokevirtual 158, 161, 2, 0), none, none, some (.ireturn, 0, 0, 0), some (.aload_n 0, 0, 0, 0), some (.getfield 29, 10, 11, 0), none, none, some (.bipush 40, 0, 0, 40), none, some (.iload_n 1, 0, 0, 0), some (.imul, 0, 0, 0), some (.iload_n 2, 0, 0, 0), some (.iadd, 0, 0, 0), some (.iaload, 0, 0, 0)],
  [some (.istore 5, 0, 0, 0), none, some (.aload_n 0, 0, 0, 0), some (.getfield 29, 10, 11, 0), none, none, some (.bipush 40, 0, 0, 40), none, some (.iload_n 1, 0, 0, 0), some (.imul, 0, 0, 0), some (.iload_n 2, 0, 0, 0), some (.iadd, 0, 0, 0), some (.iload_n 3, 0, 0, 0), some (.i2b, 0, 0, 0), some (.iastore, 0, 0, 0), some (.iload 5, 0, 0, 0)],
  [none, some (.sipush 1000, 0, 0, 1000), none, none, some (.iadd, 0, 0, 0), some (.ireturn, 0, 0, 0), none, none, none, none, none, none, none, none, none, none]])
def xm172 : XM := (yX10_askedText, cX10_askedText, 2, (some .int), 2, 42, 0, 0, 10, [[some (.iload_n 1, 0, 0, 0), some (.invokestatic 162, 170, 1, 0), none, none, some (.ifCond .ne 7, 11, 0, 0), none, none, some (.iconst (-1), 0, 0, (-1)), some (.goto 21, 29, 0, 0), none, none, some (.aload_n 0, 0, 0, 0), some (.getfield 26, 10, 10, 0), none, none, some (.iload_n 1, 0, 0, 0)],
  [some (.iaload, 0, 0, 0), some (.ifCond .ge 11, 28, 0, 0), none, none, some (.aload_n 0, 0, 0, 0), some (.iconst 1, 0, 0, 1), some (.invokevirtual 158, 161, 2, 0), none, none, some (.goto 4, 29, 0, 0), none, none, some (.iconst 0, 0, 0, 0), some (.ireturn, 0, 0, 0), none, none]])
def xm173 : XM := (yX10_rock, cX10_rock, 4, (some .int), 2, 42, 0, 0, 10, [[some (.iload_n 1, 0, 0, 0), some (.invokestatic 181, 174, 1, 0), none, none, some (.ifCond .ne 5, 9, 0, 0), none, none, some (.iconst (-1), 0, 0, (-1)), some (.ireturn, 0, 0, 0), some (.iload_n 2, 0, 0, 0), some (.ifCond .eq 14, 24, 0, 0), none, none, some (.aload_n 0, 0, 0, 0), some (.iload_n 1, 0, 0, 0), some (.invokevirtual 184, 175, 2, 0)],
  [none, none, some (.ifCond .eq 6, 24, 0, 0), none, none, some (.bipush (-4), 0, 0, (-4)), none, some (.ireturn, 0, 0, 0), some (.aload_n 0, 0, 0, 0), some (.getfield 32, 10, 12, 0), none, none, some (.iload_n 1, 0, 0, 0), some (.baload, 0, 0, 0), some (.ifCond .eq 7, 37, 0, 0), none],
  [none, some (.iconst 1, 0, 0, 1), some (.goto 4, 38, 0, 0), none, none, some (.iconst 0, 0, 0, 0), some (.istore_n 3, 0, 0, 0), some (.aload_n 0, 0, 0, 0), some (.getfield 32, 10, 12, 0), none, none, some (.iload_n 1, 0, 0, 0), some (.iload_n 2, 0, 0, 0), some (.bastore, 0, 0, 0), some (.iload_n 3, 0, 0, 0), some (.ireturn, 0, 0, 0)]])
def xm174 : XM := (yX10_isCell, cX10_isCell, 1, (some .boolean), 1, 22, 0, 0, 10, [[some (.iload_n 0, 0, 0, 0), some (.iconst 0, 0, 0, 0), some (.bipush 63, 0, 0, 63), none, some (.invokestatic 146, 160, 3, 0), none, none, some (.ireturn, 0, 0, 0), none, none, none, none, none, none, none, none]])
def xm175 : XM := (yX10_isTaken, cX10_isTaken, 4, (some .boolean), 0, 0, 0, 0, 10, [[some (.iload_n 1, 0, 0, 0), some (.aload_n 0, 0, 0, 0), some (.getfield 178, 10, 17, 0), none, none, some (.if_icmp .ne 7, 12, 0, 0), none, none, some (.iconst 1, 0, 0, 1), some (.goto 4, 13, 0, 0), none, none, some (.iconst 0, 0, 0, 0), some (.istore_n 2, 0, 0, 0), some (.iconst 0, 0, 0, 0), some (.istore_n 3, 0, 0, 0)],
  [some (.iload_n 3, 0, 0, 0), some (.bipush 6, 0, 0, 6), none, some (.if_icmp .ge 29, 48, 0, 0), none, none, some (.iload_n 2, 0, 0, 0), some (.ifCond .ne 13, 36, 0, 0), none, none, some (.aload_n 0, 0, 0, 0), some (.getfield 58, 10, 21, 0), none, none, some (.iload_n 3, 0, 0, 0), some (.iaload, 0, 0, 0)],
  [some (.iload_n 1, 0, 0, 0), some (.if_icmp .ne 7, 40, 0, 0), none, none, some (.iconst 1, 0, 0, 1), some (.goto 4, 41, 0, 0), none, none, some (.iconst 0, 0, 0, 0), some (.istore_n 2, 0, 0, 0), some (.iinc 3 1, 0, 0, 1), none, none, some (.goto (-29), 16, 0, 0), none, none],
  [some (.iload_n 2, 0, 0, 0), some (.ireturn, 0, 0, 0), none, none, none, none, none, none, none, none, none, none, none, none, none, none]])
def xm176 : XM := (yX10_cell, cX10_cell, 5, (some .int), 2, 42, 0, 0, 10, [[some (.iload_n 1, 0, 0, 0), some (.invokestatic 181, 174, 1, 0), none, none, some (.ifCond .eq 27, 31, 0, 0), none, none, some (.iload_n 2, 0, 0, 0), some (.invokestatic 187, 177, 1, 0), none, none, some (.ifCond .eq 20, 31, 0, 0), none, none, some (.iload_n 3, 0, 0, 0), some (.iconst 1, 0, 0, 1)],
  [some (.iconst 4, 0, 0, 4), some (.invokestatic 146, 160, 3, 0), none, none, some (.ifCond .eq 11, 31, 0, 0), none, none, some (.iload 4, 0, 0, 0), none, some (.invokestatic 190, 178, 1, 0), none, none, some (.ifCond .ne 5, 33, 0, 0), none, none, some (.iconst (-1), 0, 0, (-1))],
  [some (.ireturn, 0, 0, 0), some (.aload_n 0, 0, 0, 0), some (.getfield 36, 10, 13, 0), none, none, some (.iload_n 1, 0, 0, 0), some (.iload_n 2, 0, 0, 0), some (.iastore, 0, 0, 0), some (.aload_n 0, 0, 0, 0), some (.getfield 39, 10, 14, 0), none, none, some (.iload_n 1, 0, 0, 0), some (.iload_n 3, 0, 0, 0), some (.iastore, 0, 0, 0), some (.aload_n 0, 0, 0, 0)],
  [some (.getfield 42, 10, 15, 0), none, none, some (.iload_n 1, 0, 0, 0), some (.iload 4, 0, 0, 0), none, some (.iastore, 0, 0, 0), some (.iconst 1, 0, 0, 1), some (.ireturn, 0, 0, 0), none, none, none, none, none, none, none]])
def xm177 : XM := (yX10_isWay, cX10_isWay, 1, (some .boolean), 1, 22, 0, 0, 10, [[some (.iload_n 0, 0, 0, 0), some (.iconst 0, 0, 0, 0), some (.iconst 4, 0, 0, 4), some (.invokestatic 146, 160, 3, 0), none, none, some (.ireturn, 0, 0, 0), none, none, none, none, none, none, none, none, none]])
def xm178 : XM := (yX10_isIce, cX10_isIce, 1, (some .boolean), 1, 22, 0, 0, 10, [[some (.iload_n 0, 0, 0, 0), some (.iconst 0, 0, 0, 0), some (.bipush 9, 0, 0, 9), none, some (.invokestatic 146, 160, 3, 0), none, none, some (.ireturn, 0, 0, 0), none, none, none, none, none, none, none, none]])
def xm179 : XM := (yX10_sea, cX10_sea, 3, (some .int), 2, 42, 0, 0, 10, [[some (.iload_n 1, 0, 0, 0), some (.invokestatic 181, 174, 1, 0), none, none, some (.ifCond .eq 26, 30, 0, 0), none, none, some (.iload_n 2, 0, 0, 0), some (.iconst 0, 0, 0, 0), some (.iconst 4, 0, 0, 4), some (.invokestatic 146, 160, 3, 0), none, none, some (.ifCond .eq 17, 30, 0, 0), none, none],
  [some (.aload_n 0, 0, 0, 0), some (.aload_n 0, 0, 0, 0), some (.iload_n 1, 0, 0, 0), some (.iload_n 2, 0, 0, 0), some (.invokevirtual 193, 180, 3, 0), none, none, some (.iconst 1, 0, 0, 1), some (.invokevirtual 172, 168, 3, 0), none, none, some (.goto 4, 31, 0, 0), none, none, some (.iconst (-1), 0, 0, (-1)), some (.ireturn, 0, 0, 0)]])
def xm180 : XM := (yX10_seaTells, cX10_seaTells, 3, (some .int), 0, 0, 0, 0, 10, [[some (.iload_n 2, 0, 0, 0), some (.ifCond .ne 20, 21, 0, 0), none, none, some (.aload_n 0, 0, 0, 0), some (.getfield 32, 10, 12, 0), none, none, some (.iload_n 1, 0, 0, 0), some (.baload, 0, 0, 0), some (.ifCond .eq 7, 17, 0, 0), none, none, some (.iconst 1, 0, 0, 1), some (.goto 55, 69, 0, 0), none],
  [none, some (.iconst 0, 0, 0, 0), some (.goto 51, 69, 0, 0), none, none, some (.iload_n 2, 0, 0, 0), some (.iconst 1, 0, 0, 1), some (.if_icmp .ne 12, 35, 0, 0), none, none, some (.aload_n 0, 0, 0, 0), some (.getfield 36, 10, 13, 0), none, none, some (.iload_n 1, 0, 0, 0), some (.iaload, 0, 0, 0)],
  [some (.goto 37, 69, 0, 0), none, none, some (.iload_n 2, 0, 0, 0), some (.iconst 2, 0, 0, 2), some (.if_icmp .ne 12, 49, 0, 0), none, none, some (.aload_n 0, 0, 0, 0), some (.getfield 39, 10, 14, 0), none, none, some (.iload_n 1, 0, 0, 0), some (.iaload, 0, 0, 0), some (.goto 23, 69, 0, 0), none],
  [none, some (.iload_n 2, 0, 0, 0), some (.iconst 3, 0, 0, 3), some (.if_icmp .ne 12, 63, 0, 0), none, none, some (.aload_n 0, 0, 0, 0), some (.getfield 42, 10, 15, 0), none, none, some (.iload_n 1, 0, 0, 0), some (.iaload, 0, 0, 0), some (.goto 9, 69, 0, 0), none, none, some (.aload_n 0, 0, 0, 0)],
  [some (.getfield 45, 10, 16, 0), none, none, some (.iload_n 1, 0, 0, 0), some (.iaload, 0, 0, 0), some (.ireturn, 0, 0, 0), none, none, none, none, none, none, none, none, none, none]])
def xm181 : XM := (yX10_chart, cX10_chart, 3, (some .int), 2, 42, 0, 0, 10, [[some (.iload_n 1, 0, 0, 0), some (.invokestatic 181, 174, 1, 0), none, none, some (.ifCond .eq 16, 20, 0, 0), none, none, some (.iload_n 2, 0, 0, 0), some (.bipush (-9), 0, 0, (-9)), none, some (.if_icmp .eq 12, 22, 0, 0), none, none, some (.iload_n 2, 0, 0, 0), some (.invokestatic 190, 178, 1, 0), none],
  [none, some (.ifCond .ne 5, 22, 0, 0), none, none, some (.iconst (-1), 0, 0, (-1)), some (.ireturn, 0, 0, 0), some (.aload_n 0, 0, 0, 0), some (.getfield 45, 10, 16, 0), none, none, some (.iload_n 1, 0, 0, 0), some (.iload_n 2, 0, 0, 0), some (.iastore, 0, 0, 0), some (.iconst 1, 0, 0, 1), some (.ireturn, 0, 0, 0), none]])
def xm182 : XM := (yX10_hole, cX10_hole, 3, (some .int), 2, 42, 0, 0, 10, [[some (.iload_n 1, 0, 0, 0), some (.invokestatic 181, 174, 1, 0), none, none, some (.ifCond .ne 5, 9, 0, 0), none, none, some (.iconst (-1), 0, 0, (-1)), some (.ireturn, 0, 0, 0), some (.aload_n 0, 0, 0, 0), some (.getfield 32, 10, 12, 0), none, none, some (.iload_n 1, 0, 0, 0), some (.baload, 0, 0, 0), some (.ifCond .eq 6, 21, 0, 0)],
  [none, none, some (.bipush (-4), 0, 0, (-4)), none, some (.ireturn, 0, 0, 0), some (.aload_n 0, 0, 0, 0), some (.getfield 178, 10, 17, 0), none, none, some (.istore_n 2, 0, 0, 0), some (.aload_n 0, 0, 0, 0), some (.iload_n 1, 0, 0, 0), some (.putfield 178, 10, 17, 0), none, none, some (.iload_n 2, 0, 0, 0)],
  [some (.ireturn, 0, 0, 0), none, none, none, none, none, none, none, none, none, none, none, none, none, none, none]])
def xm183 : XM := (yX10_seed, cX10_seed, 2, (some .int), 0, 0, 0, 0, 10, [[some (.aload_n 0, 0, 0, 0), some (.iload_n 1, 0, 0, 0), some (.putfield 48, 10, 18, 0), none, none, some (.iconst 1, 0, 0, 1), some (.ireturn, 0, 0, 0), none, none, none, none, none, none, none, none, none]])
def xm184 : XM := (yX10_time, cX10_time, 3, (some .int), 2, 48, 0, 0, 10, [[some (.iload_n 1, 0, 0, 0), some (.invokestatic 181, 174, 1, 0), none, none, some (.ifCond .eq 28, 32, 0, 0), none, none, some (.iload_n 2, 0, 0, 0), some (.invokestatic 181, 174, 1, 0), none, none, some (.ifCond .eq 21, 32, 0, 0), none, none, some (.aload_n 0, 0, 0, 0), some (.getfield 32, 10, 12, 0)],
  [none, none, some (.iload_n 1, 0, 0, 0), some (.baload, 0, 0, 0), some (.ifCond .ne 12, 32, 0, 0), none, none, some (.aload_n 0, 0, 0, 0), some (.getfield 32, 10, 12, 0), none, none, some (.iload_n 2, 0, 0, 0), some (.baload, 0, 0, 0), some (.ifCond .eq 5, 34, 0, 0), none, none],
  [some (.iconst (-1), 0, 0, (-1)), some (.ireturn, 0, 0, 0), some (.aload_n 0, 0, 0, 0), some (.iload_n 1, 0, 0, 0), some (.invokevirtual 200, 185, 2, 0), none, none, some (.aload_n 0, 0, 0, 0), some (.getfield 52, 10, 19, 0), none, none, some (.iload_n 2, 0, 0, 0), some (.iaload, 0, 0, 0), some (.ldc 196, 0, 0, 100000), none, some (.if_icmp .ge 12, 59, 0, 0)],
  [none, none, some (.aload_n 0, 0, 0, 0), some (.getfield 52, 10, 19, 0), none, none, some (.iload_n 2, 0, 0, 0), some (.iaload, 0, 0, 0), some (.goto 8, 64, 0, 0), none, none, some (.aload_n 0, 0, 0, 0), some (.iconst 1, 0, 0, 1), some (.invokevirtual 158, 161, 2, 0), none, none],
  [some (.ireturn, 0, 0, 0), none, none, none, none, none, none, none, none, none, none, none, none, none, none, none]])
def xm185 : XM := (yX10_setTimes, cX10_setTimes, 6, none, 1, 23, 0, 0, 10, [[some (.iconst 0, 0, 0, 0), some (.istore_n 2, 0, 0, 0), some (.iload_n 2, 0, 0, 0), some (.bipush 64, 0, 0, 64), none, some (.if_icmp .ge 26, 31, 0, 0), none, none, some (.aload_n 0, 0, 0, 0), some (.getfield 52, 10, 19, 0), none, none, some (.iload_n 2, 0, 0, 0), some (.iload_n 2, 0, 0, 0), some (.iload_n 1, 0, 0, 0), some (.if_icmp .ne 7, 22, 0, 0)],
  [none, none, some (.iconst 0, 0, 0, 0), some (.goto 5, 24, 0, 0), none, none, some (.ldc 196, 0, 0, 100000), none, some (.iastore, 0, 0, 0), some (.iinc 2 1, 0, 0, 1), none, none, some (.goto (-26), 2, 0, 0), none, none, some (.aload_n 0, 0, 0, 0)],
  [some (.getfield 32, 10, 12, 0), none, none, some (.iload_n 1, 0, 0, 0), some (.baload, 0, 0, 0), some (.ifCond .ne 7, 44, 0, 0), none, none, some (.iconst 1, 0, 0, 1), some (.goto 4, 45, 0, 0), none, none, some (.iconst 0, 0, 0, 0), some (.istore_n 2, 0, 0, 0), some (.iload_n 2, 0, 0, 0), some (.ifCond .eq 104, 151, 0, 0)],
  [none, none, some (.iconst 0, 0, 0, 0), some (.istore_n 2, 0, 0, 0), some (.iconst 0, 0, 0, 0), some (.istore_n 3, 0, 0, 0), some (.iload_n 3, 0, 0, 0), some (.bipush 64, 0, 0, 64), none, some (.if_icmp .ge 91, 148, 0, 0), none, none, some (.iconst 1, 0, 0, 1), some (.istore 4, 0, 0, 0), none, some (.iload 4, 0, 0, 0)],
  [none, some (.iconst 4, 0, 0, 4), some (.if_icmp .gt 76, 142, 0, 0), none, none, some (.aload_n 0, 0, 0, 0), some (.getfield 52, 10, 19, 0), none, none, some (.iload_n 3, 0, 0, 0), some (.iaload, 0, 0, 0), some (.ldc 196, 0, 0, 100000), none, some (.if_icmp .ge 65, 142, 0, 0), none, none],
  [some (.aload_n 0, 0, 0, 0), some (.iload_n 3, 0, 0, 0), some (.iload 4, 0, 0, 0), none, some (.invokevirtual 197, 186, 3, 0), none, none, some (.istore 5, 0, 0, 0), none, some (.aload_n 0, 0, 0, 0), some (.getfield 52, 10, 19, 0), none, none, some (.iload_n 3, 0, 0, 0), some (.iaload, 0, 0, 0), some (.aload_n 0, 0, 0, 0)],
  [some (.getfield 39, 10, 14, 0), none, none, some (.iload 5, 0, 0, 0), none, some (.iaload, 0, 0, 0), some (.iadd, 0, 0, 0), some (.aload_n 0, 0, 0, 0), some (.getfield 52, 10, 19, 0), none, none, some (.iload 5, 0, 0, 0), none, some (.iaload, 0, 0, 0), some (.if_icmp .ge 26, 136, 0, 0), none],
  [none, some (.aload_n 0, 0, 0, 0), some (.getfield 52, 10, 19, 0), none, none, some (.iload 5, 0, 0, 0), none, some (.aload_n 0, 0, 0, 0), some (.getfield 52, 10, 19, 0), none, none, some (.iload_n 3, 0, 0, 0), some (.iaload, 0, 0, 0), some (.aload_n 0, 0, 0, 0), some (.getfield 39, 10, 14, 0), none],
  [none, some (.iload 5, 0, 0, 0), none, some (.iaload, 0, 0, 0), some (.iadd, 0, 0, 0), some (.iastore, 0, 0, 0), some (.iconst 1, 0, 0, 1), some (.istore_n 2, 0, 0, 0), some (.iinc 4 1, 0, 0, 1), none, none, some (.goto (-76), 63, 0, 0), none, none, some (.iinc 3 1, 0, 0, 1), none],
  [none, some (.goto (-91), 54, 0, 0), none, none, some (.goto (-102), 46, 0, 0), none, none, some (.return_, 0, 0, 0), none, none, none, none, none, none, none, none]])
def xm186 : XM := (yX10_leads, cX10_leads, 4, (some .int), 0, 0, 0, 0, 10, [[some (.iload_n 2, 0, 0, 0), some (.iconst 1, 0, 0, 1), some (.if_icmp .ne 17, 19, 0, 0), none, none, some (.iload_n 1, 0, 0, 0), some (.bipush 8, 0, 0, 8), none, some (.idiv, 0, 0, 0), some (.ifCond .le 10, 19, 0, 0), none, none, some (.iload_n 1, 0, 0, 0), some (.bipush 8, 0, 0, 8), none, some (.isub, 0, 0, 0)],
  [some (.goto 63, 79, 0, 0), none, none, some (.iload_n 2, 0, 0, 0), some (.iconst 2, 0, 0, 2), some (.if_icmp .ne 16, 37, 0, 0), none, none, some (.iload_n 1, 0, 0, 0), some (.bipush 8, 0, 0, 8), none, some (.irem, 0, 0, 0), some (.ifCond .le 9, 37, 0, 0), none, none, some (.iload_n 1, 0, 0, 0)],
  [some (.iconst 1, 0, 0, 1), some (.isub, 0, 0, 0), some (.goto 45, 79, 0, 0), none, none, some (.iload_n 2, 0, 0, 0), some (.iconst 3, 0, 0, 3), some (.if_icmp .ne 18, 57, 0, 0), none, none, some (.iload_n 1, 0, 0, 0), some (.bipush 8, 0, 0, 8), none, some (.irem, 0, 0, 0), some (.bipush 7, 0, 0, 7), none],
  [some (.if_icmp .ge 9, 57, 0, 0), none, none, some (.iload_n 1, 0, 0, 0), some (.iconst 1, 0, 0, 1), some (.iadd, 0, 0, 0), some (.goto 25, 79, 0, 0), none, none, some (.iload_n 2, 0, 0, 0), some (.iconst 4, 0, 0, 4), some (.if_icmp .ne 19, 78, 0, 0), none, none, some (.iload_n 1, 0, 0, 0), some (.bipush 8, 0, 0, 8)],
  [none, some (.idiv, 0, 0, 0), some (.bipush 7, 0, 0, 7), none, some (.if_icmp .ge 10, 78, 0, 0), none, none, some (.iload_n 1, 0, 0, 0), some (.bipush 8, 0, 0, 8), none, some (.iadd, 0, 0, 0), some (.goto 4, 79, 0, 0), none, none, some (.iload_n 1, 0, 0, 0), some (.istore_n 3, 0, 0, 0)],
  [some (.aload_n 0, 0, 0, 0), some (.getfield 32, 10, 12, 0), none, none, some (.iload_n 3, 0, 0, 0), some (.baload, 0, 0, 0), some (.ifCond .eq 7, 93, 0, 0), none, none, some (.iload_n 1, 0, 0, 0), some (.goto 4, 94, 0, 0), none, none, some (.iload_n 3, 0, 0, 0), some (.ireturn, 0, 0, 0), none]])
def xm187 : XM := (yX10_boat, cX10_boat, 5, (some .int), 2, 42, 0, 0, 10, [[some (.iload_n 1, 0, 0, 0), some (.invokestatic 204, 188, 1, 0), none, none, some (.ifCond .eq 31, 35, 0, 0), none, none, some (.iload_n 2, 0, 0, 0), some (.iconst 0, 0, 0, 0), some (.iconst 3, 0, 0, 3), some (.invokestatic 146, 160, 3, 0), none, none, some (.ifCond .eq 22, 35, 0, 0), none, none],
  [some (.iload_n 3, 0, 0, 0), some (.invokestatic 181, 174, 1, 0), none, none, some (.ifCond .eq 15, 35, 0, 0), none, none, some (.iload 4, 0, 0, 0), none, some (.iconst 0, 0, 0, 0), some (.sipush 1000, 0, 0, 1000), none, none, some (.invokestatic 146, 160, 3, 0), none, none],
  [some (.ifCond .ne 5, 37, 0, 0), none, none, some (.iconst (-1), 0, 0, (-1)), some (.ireturn, 0, 0, 0), some (.aload_n 0, 0, 0, 0), some (.getfield 32, 10, 12, 0), none, none, some (.iload_n 3, 0, 0, 0), some (.baload, 0, 0, 0), some (.ifCond .eq 6, 49, 0, 0), none, none, some (.bipush (-4), 0, 0, (-4)), none],
  [some (.ireturn, 0, 0, 0), some (.aload_n 0, 0, 0, 0), some (.getfield 55, 10, 20, 0), none, none, some (.iload_n 1, 0, 0, 0), some (.iload_n 2, 0, 0, 0), some (.iastore, 0, 0, 0), some (.aload_n 0, 0, 0, 0), some (.getfield 58, 10, 21, 0), none, none, some (.iload_n 1, 0, 0, 0), some (.iload_n 3, 0, 0, 0), some (.iastore, 0, 0, 0), some (.aload_n 0, 0, 0, 0)],
  [some (.getfield 61, 10, 22, 0), none, none, some (.iload_n 1, 0, 0, 0), some (.iload 4, 0, 0, 0), none, some (.iastore, 0, 0, 0), some (.aload_n 0, 0, 0, 0), some (.getfield 64, 10, 23, 0), none, none, some (.iload_n 1, 0, 0, 0), some (.lconst 1, 0, 0, 1), some (.iload_n 3, 0, 0, 0), some (.lshl, 0, 0, 0), some (.lastore, 0, 0, 0)],
  [some (.aload_n 0, 0, 0, 0), some (.getfield 68, 10, 24, 0), none, none, some (.iload_n 1, 0, 0, 0), some (.bipush (-9), 0, 0, (-9)), none, some (.iastore, 0, 0, 0), some (.aload_n 0, 0, 0, 0), some (.getfield 71, 10, 25, 0), none, none, some (.iload_n 1, 0, 0, 0), some (.aload_n 0, 0, 0, 0), some (.getfield 207, 10, 6, 0), none],
  [none, some (.iastore, 0, 0, 0), some (.aload_n 0, 0, 0, 0), some (.getfield 83, 10, 29, 0), none, none, some (.iload_n 1, 0, 0, 0), some (.aload_n 0, 0, 0, 0), some (.getfield 207, 10, 6, 0), none, none, some (.iastore, 0, 0, 0), some (.iconst 1, 0, 0, 1), some (.ireturn, 0, 0, 0), none, none]])
def xm188 : XM := (yX10_isBoat, cX10_isBoat, 1, (some .boolean), 1, 22, 0, 0, 10, [[some (.iload_n 0, 0, 0, 0), some (.iconst 0, 0, 0, 0), some (.iconst 5, 0, 0, 5), some (.invokestatic 146, 160, 3, 0), none, none, some (.ireturn, 0, 0, 0), none, none, none, none, none, none, none, none, none]])
def xm189 : XM := (yX10_told, cX10_told, 3, (some .int), 3, 67, 0, 0, 10, [[some (.iload_n 1, 0, 0, 0), some (.invokestatic 204, 188, 1, 0), none, none, some (.ifCond .eq 26, 30, 0, 0), none, none, some (.iload_n 2, 0, 0, 0), some (.iconst 0, 0, 0, 0), some (.iconst 5, 0, 0, 5), some (.invokestatic 146, 160, 3, 0), none, none, some (.ifCond .eq 17, 30, 0, 0), none, none],
  [some (.aload_n 0, 0, 0, 0), some (.aload_n 0, 0, 0, 0), some (.iload_n 1, 0, 0, 0), some (.iload_n 2, 0, 0, 0), some (.invokevirtual 220, 190, 3, 0), none, none, some (.iconst 1, 0, 0, 1), some (.invokevirtual 172, 168, 3, 0), none, none, some (.goto 4, 31, 0, 0), none, none, some (.iconst (-1), 0, 0, (-1)), some (.ireturn, 0, 0, 0)]])
def xm190 : XM := (yX10_boatTells, cX10_boatTells, 3, (some .int), 2, 45, 0, 0, 10, [[some (.iload_n 2, 0, 0, 0), some (.tableswitch 72 0 4 #[35, 42, 49, 56, 66], 0, 0, 0), none, none, none, none, none, none, none, none, none, none, none, none, none, none],
  [none, none, none, none, none, none, none, none, none, none, none, none, none, none, none, none],
  [none, none, none, none, some (.aload_n 0, 0, 0, 0), some (.getfield 55, 10, 20, 0), none, none, some (.iload_n 1, 0, 0, 0), some (.iaload, 0, 0, 0), some (.ireturn, 0, 0, 0), some (.aload_n 0, 0, 0, 0), some (.getfield 58, 10, 21, 0), none, none, some (.iload_n 1, 0, 0, 0)],
  [some (.iaload, 0, 0, 0), some (.ireturn, 0, 0, 0), some (.aload_n 0, 0, 0, 0), some (.getfield 61, 10, 22, 0), none, none, some (.iload_n 1, 0, 0, 0), some (.iaload, 0, 0, 0), some (.ireturn, 0, 0, 0), some (.aload_n 0, 0, 0, 0), some (.getfield 64, 10, 23, 0), none, none, some (.iload_n 1, 0, 0, 0), some (.laload, 0, 0, 0), some (.invokestatic 213, 191, 1, 0)],
  [none, none, some (.ireturn, 0, 0, 0), some (.aload_n 0, 0, 0, 0), some (.iload_n 1, 0, 0, 0), some (.invokevirtual 217, 193, 2, 0), none, none, some (.ireturn, 0, 0, 0), some (.aload_n 0, 0, 0, 0), some (.getfield 71, 10, 25, 0), none, none, some (.iload_n 1, 0, 0, 0), some (.iaload, 0, 0, 0), some (.ireturn, 0, 0, 0)]])
def xm191 : XM := (yX10_many, cX10_many, 4, (some .int), 1, 22, 0, 0, 10, [[some (.iconst 0, 0, 0, 0), some (.istore_n 2, 0, 0, 0), some (.iconst 0, 0, 0, 0), some (.istore_n 3, 0, 0, 0), some (.iload_n 3, 0, 0, 0), some (.bipush 64, 0, 0, 64), none, some (.if_icmp .ge 25, 32, 0, 0), none, none, some (.iload_n 2, 0, 0, 0), some (.lload_n 0, 0, 0, 0), some (.iload_n 3, 0, 0, 0), some (.invokestatic 150, 192, 2, 0), none, none],
  [some (.ifCond .eq 7, 23, 0, 0), none, none, some (.iconst 1, 0, 0, 1), some (.goto 4, 24, 0, 0), none, none, some (.iconst 0, 0, 0, 0), some (.iadd, 0, 0, 0), some (.istore_n 2, 0, 0, 0), some (.iinc 3 1, 0, 0, 1), none, none, some (.goto (-25), 4, 0, 0), none, none],
  [some (.iload_n 2, 0, 0, 0), some (.ireturn, 0, 0, 0), none, none, none, none, none, none, none, none, none, none, none, none, none, none]])
end
section
/-! ===== methods 192 on ===== -/
def xm192 : XM := (yX10_has, cX10_has, 3, (some .boolean), 0, 0, 0, 0, 10, [[some (.lload_n 0, 0, 0, 0), some (.iload_n 2, 0, 0, 0), some (.lshr, 0, 0, 0), some (.lconst 1, 0, 0, 1), some (.land, 0, 0, 0), some (.lconst 1, 0, 0, 1), some (.lcmp, 0, 0, 0), some (.ifCond .ne 7, 14, 0, 0), none, none, some (.iconst 1, 0, 0, 1), some (.goto 4, 15, 0, 0), none, none, some (.iconst 0, 0, 0, 0), some (.ireturn, 0, 0, 0)]])
def xm193 : XM := (yX10_heldBy, cX10_heldBy, 4, (some .int), 0, 0, 0, 0, 10, [[some (.iconst 0, 0, 0, 0), some (.istore_n 2, 0, 0, 0), some (.iconst 0, 0, 0, 0), some (.istore_n 3, 0, 0, 0), some (.iload_n 3, 0, 0, 0), some (.aload_n 0, 0, 0, 0), some (.getfield 210, 10, 30, 0), none, none, some (.if_icmp .ge 22, 31, 0, 0), none, none, some (.iload_n 2, 0, 0, 0), some (.aload_n 0, 0, 0, 0), some (.getfield 92, 10, 33, 0), none],
  [none, some (.iload_n 3, 0, 0, 0), some (.iaload, 0, 0, 0), some (.iload_n 1, 0, 0, 0), some (.ishr, 0, 0, 0), some (.iconst 1, 0, 0, 1), some (.iand, 0, 0, 0), some (.iadd, 0, 0, 0), some (.istore_n 2, 0, 0, 0), some (.iinc 3 1, 0, 0, 1), none, none, some (.goto (-24), 4, 0, 0), none, none, some (.iload_n 2, 0, 0, 0)],
  [some (.ireturn, 0, 0, 0), none, none, none, none, none, none, none, none, none, none, none, none, none, none, none]])
def xm194 : XM := (yX10_mark, cX10_mark, 6, (some .int), 2, 42, 0, 0, 10, [[some (.iload_n 1, 0, 0, 0), some (.invokestatic 204, 188, 1, 0), none, none, some (.ifCond .eq 13, 17, 0, 0), none, none, some (.iload_n 2, 0, 0, 0), some (.iconst 1, 0, 0, 1), some (.bipush 6, 0, 0, 6), none, some (.invokestatic 146, 160, 3, 0), none, none, some (.ifCond .ne 5, 19, 0, 0), none],
  [none, some (.iconst (-1), 0, 0, (-1)), some (.ireturn, 0, 0, 0), some (.aload_n 0, 0, 0, 0), some (.getfield 55, 10, 20, 0), none, none, some (.iload_n 1, 0, 0, 0), some (.iaload, 0, 0, 0), some (.iload_n 2, 0, 0, 0), some (.if_icmp .eq 33, 59, 0, 0), none, none, some (.iload_n 2, 0, 0, 0), some (.iconst 2, 0, 0, 2), some (.if_icmp .ne 13, 44, 0, 0)],
  [none, none, some (.aload_n 0, 0, 0, 0), some (.getfield 55, 10, 20, 0), none, none, some (.iload_n 1, 0, 0, 0), some (.iaload, 0, 0, 0), some (.iconst 3, 0, 0, 3), some (.if_icmp .eq 18, 59, 0, 0), none, none, some (.iload_n 2, 0, 0, 0), some (.iconst 4, 0, 0, 4), some (.if_icmp .ne 17, 63, 0, 0), none],
  [none, some (.aload_n 0, 0, 0, 0), some (.getfield 55, 10, 20, 0), none, none, some (.iload_n 1, 0, 0, 0), some (.iaload, 0, 0, 0), some (.iconst 5, 0, 0, 5), some (.if_icmp .ne 7, 63, 0, 0), none, none, some (.iconst 1, 0, 0, 1), some (.goto 4, 64, 0, 0), none, none, some (.iconst 0, 0, 0, 0)],
  [some (.istore_n 3, 0, 0, 0), some (.iload_n 3, 0, 0, 0), some (.ifCond .ne 9, 75, 0, 0), none, none, some (.aload_n 0, 0, 0, 0), some (.iconst 3, 0, 0, 3), some (.invokevirtual 158, 161, 2, 0), none, none, some (.ireturn, 0, 0, 0), some (.iconst 0, 0, 0, 0), some (.istore 4, 0, 0, 0), none, some (.iload_n 2, 0, 0, 0), some (.tableswitch 102 1 6 #[37, 44, 102, 102, 51, 95], 0, 0, 0)],
  [none, none, none, none, none, none, none, none, none, none, none, none, none, none, none, none],
  [none, none, none, none, none, none, none, none, none, none, none, none, none, none, none, none],
  [none, none, none, none, some (.aload_n 0, 0, 0, 0), some (.getfield 80, 10, 28, 0), none, none, some (.iload_n 1, 0, 0, 0), some (.iaload, 0, 0, 0), some (.ireturn, 0, 0, 0), some (.aload_n 0, 0, 0, 0), some (.getfield 77, 10, 27, 0), none, none, some (.iload_n 1, 0, 0, 0)],
  [some (.iaload, 0, 0, 0), some (.ireturn, 0, 0, 0), some (.iconst 0, 0, 0, 0), some (.istore 5, 0, 0, 0), none, some (.iload 5, 0, 0, 0), none, some (.aload_n 0, 0, 0, 0), some (.getfield 210, 10, 30, 0), none, none, some (.if_icmp .ge 32, 171, 0, 0), none, none, some (.iload 4, 0, 0, 0), none],
  [some (.aload_n 0, 0, 0, 0), some (.getfield 92, 10, 33, 0), none, none, some (.iload 5, 0, 0, 0), none, some (.iaload, 0, 0, 0), some (.iconst 1, 0, 0, 1), some (.iload_n 1, 0, 0, 0), some (.ishl, 0, 0, 0), some (.if_icmp .ne 7, 161, 0, 0), none, none, some (.iconst 1, 0, 0, 1), some (.goto 4, 162, 0, 0), none],
  [none, some (.iconst 0, 0, 0, 0), some (.iadd, 0, 0, 0), some (.istore 4, 0, 0, 0), none, some (.iinc 5 1, 0, 0, 1), none, none, some (.goto (-35), 133, 0, 0), none, none, some (.iload 4, 0, 0, 0), none, some (.ireturn, 0, 0, 0), some (.aload_n 0, 0, 0, 0), some (.getfield 61, 10, 22, 0)],
  [none, none, some (.iload_n 1, 0, 0, 0), some (.iaload, 0, 0, 0), some (.ireturn, 0, 0, 0), some (.aload_n 0, 0, 0, 0), some (.getfield 83, 10, 29, 0), none, none, some (.iload_n 1, 0, 0, 0), some (.iaload, 0, 0, 0), some (.ireturn, 0, 0, 0), none, none, none, none]])
def xm195 : XM := (yX10_could, cX10_could, 2, (some .int), 2, 45, 0, 0, 10, [[some (.iload_n 1, 0, 0, 0), some (.invokestatic 204, 188, 1, 0), none, none, some (.ifCond .ne 5, 9, 0, 0), none, none, some (.iconst (-1), 0, 0, (-1)), some (.ireturn, 0, 0, 0), some (.aload_n 0, 0, 0, 0), some (.aload_n 0, 0, 0, 0), some (.getfield 64, 10, 23, 0), none, none, some (.iload_n 1, 0, 0, 0), some (.laload, 0, 0, 0)],
  [some (.putfield 223, 10, 3, 0), none, none, some (.aload_n 0, 0, 0, 0), some (.getfield 223, 10, 3, 0), none, none, some (.invokestatic 213, 191, 1, 0), none, none, some (.ireturn, 0, 0, 0), none, none, none, none, none]])
def xm196 : XM := (yX10_go, cX10_go, 3, (some .int), 2, 42, 0, 0, 10, [[some (.iload_n 1, 0, 0, 0), some (.invokestatic 204, 188, 1, 0), none, none, some (.ifCond .eq 10, 14, 0, 0), none, none, some (.iload_n 2, 0, 0, 0), some (.invokestatic 187, 177, 1, 0), none, none, some (.ifCond .ne 5, 16, 0, 0), none, none, some (.iconst (-1), 0, 0, (-1)), some (.ireturn, 0, 0, 0)],
  [some (.aload_n 0, 0, 0, 0), some (.iload_n 1, 0, 0, 0), some (.invokevirtual 226, 197, 2, 0), none, none, some (.ifCond .ne 6, 27, 0, 0), none, none, some (.bipush (-4), 0, 0, (-4)), none, some (.ireturn, 0, 0, 0), some (.aload_n 0, 0, 0, 0), some (.getfield 68, 10, 24, 0), none, none, some (.iload_n 1, 0, 0, 0)],
  [some (.iload_n 2, 0, 0, 0), some (.iastore, 0, 0, 0), some (.iconst 1, 0, 0, 1), some (.ireturn, 0, 0, 0), none, none, none, none, none, none, none, none, none, none, none, none]])
def xm197 : XM := (yX10_isAble, cX10_isAble, 2, (some .boolean), 0, 0, 0, 0, 10, [[some (.aload_n 0, 0, 0, 0), some (.getfield 55, 10, 20, 0), none, none, some (.iload_n 1, 0, 0, 0), some (.iaload, 0, 0, 0), some (.iconst 3, 0, 0, 3), some (.if_icmp .gt 7, 14, 0, 0), none, none, some (.iconst 1, 0, 0, 1), some (.goto 4, 15, 0, 0), none, none, some (.iconst 0, 0, 0, 0), some (.ireturn, 0, 0, 0)]])
def xm198 : XM := (yX10_tick, cX10_tick, 5, (some .int), 5, 122, 0, 0, 10, [[some (.aload_n 0, 0, 0, 0), some (.getfield 207, 10, 6, 0), none, none, some (.sipush 999, 0, 0, 999), none, none, some (.if_icmp .ne 6, 13, 0, 0), none, none, some (.bipush (-4), 0, 0, (-4)), none, some (.ireturn, 0, 0, 0), some (.aload_n 0, 0, 0, 0), some (.dup, 0, 0, 0), some (.getfield 207, 10, 6, 0)],
  [none, none, some (.iconst 1, 0, 0, 1), some (.iadd, 0, 0, 0), some (.putfield 207, 10, 6, 0), none, none, some (.iconst 0, 0, 0, 0), some (.istore_n 1, 0, 0, 0), some (.iload_n 1, 0, 0, 0), some (.bipush 6, 0, 0, 6), none, some (.if_icmp .ge 22, 50, 0, 0), none, none, some (.aload_n 0, 0, 0, 0)],
  [some (.iload_n 1, 0, 0, 0), some (.invokevirtual 226, 197, 2, 0), none, none, some (.ifCond .eq 8, 44, 0, 0), none, none, some (.aload_n 0, 0, 0, 0), some (.iload_n 1, 0, 0, 0), some (.invokevirtual 234, 199, 2, 0), none, none, some (.iinc 1 1, 0, 0, 1), none, none, some (.goto (-22), 25, 0, 0)],
  [none, none, some (.iconst 0, 0, 0, 0), some (.istore_n 1, 0, 0, 0), some (.iconst 0, 0, 0, 0), some (.istore_n 2, 0, 0, 0), some (.iload_n 2, 0, 0, 0), some (.bipush 6, 0, 0, 6), none, some (.if_icmp .ge 17, 74, 0, 0), none, none, some (.iload_n 1, 0, 0, 0), some (.aload_n 0, 0, 0, 0), some (.iload_n 2, 0, 0, 0), some (.invokevirtual 237, 201, 2, 0)],
  [none, none, some (.iadd, 0, 0, 0), some (.istore_n 1, 0, 0, 0), some (.iinc 2 1, 0, 0, 1), none, none, some (.goto (-17), 54, 0, 0), none, none, some (.iconst 0, 0, 0, 0), some (.istore_n 2, 0, 0, 0), some (.iload_n 2, 0, 0, 0), some (.bipush 6, 0, 0, 6), none, some (.if_icmp .ge 105, 184, 0, 0)],
  [none, none, some (.aload_n 0, 0, 0, 0), some (.iload_n 2, 0, 0, 0), some (.invokevirtual 226, 197, 2, 0), none, none, some (.ifCond .eq 91, 178, 0, 0), none, none, some (.aload_n 0, 0, 0, 0), some (.getfield 122, 10, 44, 0), none, none, some (.iconst 4, 0, 0, 4), some (.iload_n 2, 0, 0, 0)],
  [some (.imul, 0, 0, 0), some (.iconst 1, 0, 0, 1), some (.iadd, 0, 0, 0), some (.iaload, 0, 0, 0), some (.istore_n 3, 0, 0, 0), some (.aload_n 0, 0, 0, 0), some (.getfield 61, 10, 22, 0), none, none, some (.iload_n 2, 0, 0, 0), some (.iaload, 0, 0, 0), some (.ifCond .ne 7, 114, 0, 0), none, none, some (.iconst 5, 0, 0, 5), some (.goto 32, 143, 0, 0)],
  [none, none, some (.iload_n 3, 0, 0, 0), some (.ifCond .lt 22, 137, 0, 0), none, none, some (.aload_n 0, 0, 0, 0), some (.getfield 207, 10, 6, 0), none, none, some (.aload_n 0, 0, 0, 0), some (.getfield 71, 10, 25, 0), none, none, some (.iload_n 2, 0, 0, 0), some (.iaload, 0, 0, 0)],
  [some (.isub, 0, 0, 0), some (.iload_n 3, 0, 0, 0), some (.if_icmp .le 7, 137, 0, 0), none, none, some (.iconst 4, 0, 0, 4), some (.goto 9, 143, 0, 0), none, none, some (.aload_n 0, 0, 0, 0), some (.getfield 55, 10, 20, 0), none, none, some (.iload_n 2, 0, 0, 0), some (.iaload, 0, 0, 0), some (.istore 4, 0, 0, 0)],
  [none, some (.aload_n 0, 0, 0, 0), some (.getfield 83, 10, 29, 0), none, none, some (.iload_n 2, 0, 0, 0), some (.iload 4, 0, 0, 0), none, some (.iconst 3, 0, 0, 3), some (.if_icmp .le 10, 163, 0, 0), none, none, some (.aload_n 0, 0, 0, 0), some (.getfield 207, 10, 6, 0), none, none],
  [some (.goto 9, 169, 0, 0), none, none, some (.aload_n 0, 0, 0, 0), some (.getfield 83, 10, 29, 0), none, none, some (.iload_n 2, 0, 0, 0), some (.iaload, 0, 0, 0), some (.iastore, 0, 0, 0), some (.aload_n 0, 0, 0, 0), some (.getfield 55, 10, 20, 0), none, none, some (.iload_n 2, 0, 0, 0), some (.iload 4, 0, 0, 0)],
  [none, some (.iastore, 0, 0, 0), some (.iinc 2 1, 0, 0, 1), none, none, some (.goto (-105), 76, 0, 0), none, none, some (.iload_n 1, 0, 0, 0), some (.ireturn, 0, 0, 0), none, none, none, none, none, none]])
def xm199 : XM := (yX10_moves, cX10_moves, 7, none, 1, 23, 0, 0, 10, [[some (.aload_n 0, 0, 0, 0), some (.getfield 68, 10, 24, 0), none, none, some (.iload_n 1, 0, 0, 0), some (.iaload, 0, 0, 0), some (.ifCond .lt 23, 29, 0, 0), none, none, some (.aload_n 0, 0, 0, 0), some (.getfield 55, 10, 20, 0), none, none, some (.iload_n 1, 0, 0, 0), some (.iaload, 0, 0, 0), some (.iconst 3, 0, 0, 3)],
  [some (.if_icmp .eq 13, 29, 0, 0), none, none, some (.aload_n 0, 0, 0, 0), some (.getfield 61, 10, 22, 0), none, none, some (.iload_n 1, 0, 0, 0), some (.iaload, 0, 0, 0), some (.iconst 2, 0, 0, 2), some (.if_icmp .ge 7, 33, 0, 0), none, none, some (.iconst 0, 0, 0, 0), some (.goto 9, 39, 0, 0), none],
  [none, some (.aload_n 0, 0, 0, 0), some (.getfield 68, 10, 24, 0), none, none, some (.iload_n 1, 0, 0, 0), some (.iaload, 0, 0, 0), some (.istore_n 2, 0, 0, 0), some (.aload_n 0, 0, 0, 0), some (.getfield 68, 10, 24, 0), none, none, some (.iload_n 1, 0, 0, 0), some (.bipush (-9), 0, 0, (-9)), none, some (.iastore, 0, 0, 0)],
  [some (.aload_n 0, 0, 0, 0), some (.getfield 55, 10, 20, 0), none, none, some (.iload_n 1, 0, 0, 0), some (.iaload, 0, 0, 0), some (.iconst 3, 0, 0, 3), some (.if_icmp .ne 4, 59, 0, 0), none, none, some (.return_, 0, 0, 0), some (.aload_n 0, 0, 0, 0), some (.getfield 61, 10, 22, 0), none, none, some (.iload_n 1, 0, 0, 0)],
  [some (.dup2, 0, 0, 0), some (.iaload, 0, 0, 0), some (.iload_n 2, 0, 0, 0), some (.ifCond .ne 7, 74, 0, 0), none, none, some (.iconst 0, 0, 0, 0), some (.goto 4, 75, 0, 0), none, none, some (.iconst 2, 0, 0, 2), some (.isub, 0, 0, 0), some (.iastore, 0, 0, 0), some (.aload_n 0, 0, 0, 0), some (.getfield 58, 10, 21, 0), none],
  [none, some (.iload_n 1, 0, 0, 0), some (.aload_n 0, 0, 0, 0), some (.aload_n 0, 0, 0, 0), some (.getfield 58, 10, 21, 0), none, none, some (.iload_n 1, 0, 0, 0), some (.iaload, 0, 0, 0), some (.iload_n 2, 0, 0, 0), some (.invokevirtual 197, 186, 3, 0), none, none, some (.iastore, 0, 0, 0), some (.aload_n 0, 0, 0, 0), some (.invokevirtual 230, 200, 1, 0)],
  [none, none, some (.ifCond .eq 30, 128, 0, 0), none, none, some (.aload_n 0, 0, 0, 0), some (.getfield 58, 10, 21, 0), none, none, some (.iload_n 1, 0, 0, 0), some (.aload_n 0, 0, 0, 0), some (.aload_n 0, 0, 0, 0), some (.getfield 58, 10, 21, 0), none, none, some (.iload_n 1, 0, 0, 0)],
  [some (.iaload, 0, 0, 0), some (.aload_n 0, 0, 0, 0), some (.getfield 36, 10, 13, 0), none, none, some (.aload_n 0, 0, 0, 0), some (.getfield 58, 10, 21, 0), none, none, some (.iload_n 1, 0, 0, 0), some (.iaload, 0, 0, 0), some (.iaload, 0, 0, 0), some (.invokevirtual 197, 186, 3, 0), none, none, some (.iastore, 0, 0, 0)],
  [some (.lconst 0, 0, 0, 0), some (.lstore_n 3, 0, 0, 0), some (.iconst 0, 0, 0, 0), some (.istore 5, 0, 0, 0), none, some (.iload 5, 0, 0, 0), none, some (.bipush 64, 0, 0, 64), none, some (.if_icmp .ge 55, 192, 0, 0), none, none, some (.aload_n 0, 0, 0, 0), some (.getfield 64, 10, 23, 0), none, none],
  [some (.iload_n 1, 0, 0, 0), some (.laload, 0, 0, 0), some (.iload 5, 0, 0, 0), none, some (.invokestatic 150, 192, 2, 0), none, none, some (.ifCond .eq 35, 186, 0, 0), none, none, some (.aload_n 0, 0, 0, 0), some (.iload 5, 0, 0, 0), none, some (.iload_n 2, 0, 0, 0), some (.invokevirtual 197, 186, 3, 0), none],
  [none, some (.istore 6, 0, 0, 0), none, some (.lload_n 3, 0, 0, 0), some (.lconst 1, 0, 0, 1), some (.iload 6, 0, 0, 0), none, some (.lshl, 0, 0, 0), some (.lconst 1, 0, 0, 1), some (.aload_n 0, 0, 0, 0), some (.iload 6, 0, 0, 0), none, some (.aload_n 0, 0, 0, 0), some (.getfield 36, 10, 13, 0), none, none],
  [some (.iload 6, 0, 0, 0), none, some (.iaload, 0, 0, 0), some (.invokevirtual 197, 186, 3, 0), none, none, some (.lshl, 0, 0, 0), some (.lor, 0, 0, 0), some (.lor, 0, 0, 0), some (.lstore_n 3, 0, 0, 0), some (.iinc 5 1, 0, 0, 1), none, none, some (.goto (-56), 133, 0, 0), none, none],
  [some (.aload_n 0, 0, 0, 0), some (.getfield 64, 10, 23, 0), none, none, some (.iload_n 1, 0, 0, 0), some (.lload_n 3, 0, 0, 0), some (.lastore, 0, 0, 0), some (.return_, 0, 0, 0), none, none, none, none, none, none, none, none]])
def xm200 : XM := (yX10_isCarried, cX10_isCarried, 1, (some .boolean), 0, 0, 0, 0, 10, [[some (.aload_n 0, 0, 0, 0), some (.aload_n 0, 0, 0, 0), some (.getfield 48, 10, 18, 0), none, none, some (.ldc 229, 0, 0, 1103515245), none, some (.imul, 0, 0, 0), some (.sipush 12345, 0, 0, 12345), none, none, some (.iadd, 0, 0, 0), some (.putfield 48, 10, 18, 0), none, none, some (.aload_n 0, 0, 0, 0)],
  [some (.getfield 48, 10, 18, 0), none, none, some (.bipush 16, 0, 0, 16), none, some (.ishr, 0, 0, 0), some (.sipush 32767, 0, 0, 32767), none, none, some (.iand, 0, 0, 0), some (.iconst 4, 0, 0, 4), some (.irem, 0, 0, 0), some (.ifCond .eq 7, 35, 0, 0), none, none, some (.iconst 1, 0, 0, 1)],
  [some (.goto 4, 36, 0, 0), none, none, some (.iconst 0, 0, 0, 0), some (.ireturn, 0, 0, 0), none, none, none, none, none, none, none, none, none, none, none]])
def xm201 : XM := (yX10_hears, cX10_hears, 5, (some .int), 4, 98, 0, 0, 10, [[some (.iconst 0, 0, 0, 0), some (.istore_n 2, 0, 0, 0), some (.bipush (-9), 0, 0, (-9)), none, some (.istore_n 3, 0, 0, 0), some (.iconst 0, 0, 0, 0), some (.istore 4, 0, 0, 0), none, some (.iload 4, 0, 0, 0), none, some (.aload_n 0, 0, 0, 0), some (.getfield 250, 10, 36, 0), none, none, some (.if_icmp .ge 34, 48, 0, 0), none],
  [none, some (.aload_n 0, 0, 0, 0), some (.getfield 116, 10, 42, 0), none, none, some (.bipush 6, 0, 0, 6), none, some (.iload 4, 0, 0, 0), none, some (.imul, 0, 0, 0), some (.iload_n 1, 0, 0, 0), some (.iadd, 0, 0, 0), some (.iaload, 0, 0, 0), some (.aload_n 0, 0, 0, 0), some (.getfield 207, 10, 6, 0), none],
  [none, some (.if_icmp .ne 9, 42, 0, 0), none, none, some (.iinc 2 1, 0, 0, 1), none, none, some (.iload 4, 0, 0, 0), none, some (.istore_n 3, 0, 0, 0), some (.iinc 4 1, 0, 0, 1), none, none, some (.goto (-37), 8, 0, 0), none, none],
  [some (.iconst 0, 0, 0, 0), some (.istore 4, 0, 0, 0), none, some (.iload 4, 0, 0, 0), none, some (.aload_n 0, 0, 0, 0), some (.getfield 250, 10, 36, 0), none, none, some (.if_icmp .ge 67, 124, 0, 0), none, none, some (.aload_n 0, 0, 0, 0), some (.getfield 116, 10, 42, 0), none, none],
  [some (.bipush 6, 0, 0, 6), none, some (.iload 4, 0, 0, 0), none, some (.imul, 0, 0, 0), some (.iload_n 1, 0, 0, 0), some (.iadd, 0, 0, 0), some (.iaload, 0, 0, 0), some (.aload_n 0, 0, 0, 0), some (.getfield 207, 10, 6, 0), none, none, some (.if_icmp .ne 42, 118, 0, 0), none, none, some (.aload_n 0, 0, 0, 0)],
  [some (.getfield 119, 10, 43, 0), none, none, some (.bipush 6, 0, 0, 6), none, some (.iload 4, 0, 0, 0), none, some (.imul, 0, 0, 0), some (.iload_n 1, 0, 0, 0), some (.iadd, 0, 0, 0), some (.aload_n 0, 0, 0, 0), some (.iload_n 1, 0, 0, 0), some (.invokevirtual 226, 197, 2, 0), none, none, some (.ifCond .ne 8, 103, 0, 0)],
  [none, none, some (.bipush (-12), 0, 0, (-12)), none, some (.goto 17, 117, 0, 0), none, none, some (.iload_n 2, 0, 0, 0), some (.iconst 1, 0, 0, 1), some (.if_icmp .le 8, 113, 0, 0), none, none, some (.bipush (-10), 0, 0, (-10)), none, some (.goto 7, 117, 0, 0), none],
  [none, some (.aload_n 0, 0, 0, 0), some (.getfield 207, 10, 6, 0), none, none, some (.iastore, 0, 0, 0), some (.iinc 4 1, 0, 0, 1), none, none, some (.goto (-70), 51, 0, 0), none, none, some (.iload_n 2, 0, 0, 0), some (.iconst 1, 0, 0, 1), some (.if_icmp .ne 11, 137, 0, 0), none],
  [none, some (.aload_n 0, 0, 0, 0), some (.iload_n 1, 0, 0, 0), some (.invokevirtual 226, 197, 2, 0), none, none, some (.ifCond .ne 5, 139, 0, 0), none, none, some (.iconst 0, 0, 0, 0), some (.ireturn, 0, 0, 0), some (.aload_n 0, 0, 0, 0), some (.getfield 71, 10, 25, 0), none, none, some (.iload_n 1, 0, 0, 0)],
  [some (.aload_n 0, 0, 0, 0), some (.getfield 207, 10, 6, 0), none, none, some (.iastore, 0, 0, 0), some (.aload_n 0, 0, 0, 0), some (.iload_n 1, 0, 0, 0), some (.iload_n 3, 0, 0, 0), some (.invokevirtual 253, 202, 3, 0), none, none, some (.iconst 1, 0, 0, 1), some (.ireturn, 0, 0, 0), none, none, none]])
def xm202 : XM := (yX10_takes, cX10_takes, 4, none, 3, 75, 0, 0, 10, [[some (.aload_n 0, 0, 0, 0), some (.getfield 101, 10, 37, 0), none, none, some (.iload_n 2, 0, 0, 0), some (.iaload, 0, 0, 0), some (.tableswitch 122 1 5 #[34, 41, 59, 72, 72], 0, 0, 0), none, none, none, none, none, none, none, none, none],
  [none, none, none, none, none, none, none, none, none, none, none, none, none, none, none, none],
  [none, none, none, none, none, none, none, none, some (.aload_n 0, 0, 0, 0), some (.iload_n 1, 0, 0, 0), some (.iload_n 2, 0, 0, 0), some (.invokevirtual 263, 203, 3, 0), none, none, some (.return_, 0, 0, 0), some (.aload_n 0, 0, 0, 0)],
  [some (.getfield 92, 10, 33, 0), none, none, some (.aload_n 0, 0, 0, 0), some (.getfield 110, 10, 40, 0), none, none, some (.iload_n 2, 0, 0, 0), some (.iaload, 0, 0, 0), some (.dup2, 0, 0, 0), some (.iaload, 0, 0, 0), some (.iconst 1, 0, 0, 1), some (.iload_n 1, 0, 0, 0), some (.ishl, 0, 0, 0), some (.ior, 0, 0, 0), some (.iastore, 0, 0, 0)],
  [some (.return_, 0, 0, 0), some (.aload_n 0, 0, 0, 0), some (.getfield 68, 10, 24, 0), none, none, some (.iload_n 1, 0, 0, 0), some (.aload_n 0, 0, 0, 0), some (.getfield 110, 10, 40, 0), none, none, some (.iload_n 2, 0, 0, 0), some (.iaload, 0, 0, 0), some (.iastore, 0, 0, 0), some (.return_, 0, 0, 0), some (.aload_n 0, 0, 0, 0), some (.iload_n 1, 0, 0, 0)],
  [some (.aload_n 0, 0, 0, 0), some (.getfield 101, 10, 37, 0), none, none, some (.iload_n 2, 0, 0, 0), some (.iaload, 0, 0, 0), some (.iconst 4, 0, 0, 4), some (.if_icmp .ne 12, 99, 0, 0), none, none, some (.aload_n 0, 0, 0, 0), some (.getfield 110, 10, 40, 0), none, none, some (.iload_n 2, 0, 0, 0), some (.iaload, 0, 0, 0)],
  [some (.goto 7, 103, 0, 0), none, none, some (.aload_n 0, 0, 0, 0), some (.getfield 178, 10, 17, 0), none, none, some (.invokevirtual 266, 204, 3, 0), none, none, some (.istore_n 3, 0, 0, 0), some (.aload_n 0, 0, 0, 0), some (.getfield 68, 10, 24, 0), none, none, some (.iload_n 1, 0, 0, 0)],
  [some (.iload_n 3, 0, 0, 0), some (.ifCond .le 7, 120, 0, 0), none, none, some (.iload_n 3, 0, 0, 0), some (.goto 9, 126, 0, 0), none, none, some (.aload_n 0, 0, 0, 0), some (.getfield 68, 10, 24, 0), none, none, some (.iload_n 1, 0, 0, 0), some (.iaload, 0, 0, 0), some (.iastore, 0, 0, 0), some (.return_, 0, 0, 0)],
  [some (.return_, 0, 0, 0), none, none, none, none, none, none, none, none, none, none, none, none, none, none, none]])
def xm203 : XM := (yX10_keepsFar, cX10_keepsFar, 8, none, 2, 48, 0, 0, 10, [[some (.aload_n 0, 0, 0, 0), some (.getfield 207, 10, 6, 0), none, none, some (.aload_n 0, 0, 0, 0), some (.getfield 107, 10, 39, 0), none, none, some (.iload_n 2, 0, 0, 0), some (.iaload, 0, 0, 0), some (.isub, 0, 0, 0), some (.istore_n 3, 0, 0, 0), some (.lconst 0, 0, 0, 0), some (.lstore 4, 0, 0, 0), none, some (.iconst 0, 0, 0, 0)],
  [some (.istore 6, 0, 0, 0), none, some (.iload 6, 0, 0, 0), none, some (.bipush 64, 0, 0, 64), none, some (.if_icmp .ge 94, 116, 0, 0), none, none, some (.aload_n 0, 0, 0, 0), some (.getfield 113, 10, 41, 0), none, none, some (.iload_n 2, 0, 0, 0), some (.laload, 0, 0, 0), some (.iload 6, 0, 0, 0)],
  [none, some (.invokestatic 150, 192, 2, 0), none, none, some (.ifCond .eq 74, 110, 0, 0), none, none, some (.aload_n 0, 0, 0, 0), some (.getfield 32, 10, 12, 0), none, none, some (.iload 6, 0, 0, 0), none, some (.baload, 0, 0, 0), some (.ifCond .ne 64, 110, 0, 0), none],
  [none, some (.aload_n 0, 0, 0, 0), some (.iload 6, 0, 0, 0), none, some (.invokevirtual 200, 185, 2, 0), none, none, some (.iconst 0, 0, 0, 0), some (.istore 7, 0, 0, 0), none, some (.iload 7, 0, 0, 0), none, some (.bipush 64, 0, 0, 64), none, some (.if_icmp .ge 48, 110, 0, 0), none],
  [none, some (.lload 4, 0, 0, 0), none, some (.aload_n 0, 0, 0, 0), some (.getfield 52, 10, 19, 0), none, none, some (.iload 7, 0, 0, 0), none, some (.iaload, 0, 0, 0), some (.iload_n 3, 0, 0, 0), some (.if_icmp .eq 18, 93, 0, 0), none, none, some (.aload_n 0, 0, 0, 0), some (.getfield 52, 10, 19, 0)],
  [none, none, some (.iload 7, 0, 0, 0), none, some (.iaload, 0, 0, 0), some (.ifCond .ne 15, 100, 0, 0), none, none, some (.iload_n 3, 0, 0, 0), some (.iconst 1, 0, 0, 1), some (.if_icmp .ne 10, 100, 0, 0), none, none, some (.lconst 1, 0, 0, 1), some (.iload 7, 0, 0, 0), none],
  [some (.lshl, 0, 0, 0), some (.goto 4, 101, 0, 0), none, none, some (.lconst 0, 0, 0, 0), some (.lor, 0, 0, 0), some (.lstore 4, 0, 0, 0), none, some (.iinc 7 1, 0, 0, 1), none, none, some (.goto (-49), 58, 0, 0), none, none, some (.iinc 6 1, 0, 0, 1), none],
  [none, some (.goto (-95), 18, 0, 0), none, none, some (.lload 4, 0, 0, 0), none, some (.aload_n 0, 0, 0, 0), some (.getfield 64, 10, 23, 0), none, none, some (.iload_n 1, 0, 0, 0), some (.laload, 0, 0, 0), some (.land, 0, 0, 0), some (.lstore 4, 0, 0, 0), none, some (.aload_n 0, 0, 0, 0)],
  [some (.getfield 64, 10, 23, 0), none, none, some (.iload_n 1, 0, 0, 0), some (.lload 4, 0, 0, 0), none, some (.lconst 0, 0, 0, 0), some (.lcmp, 0, 0, 0), some (.ifCond .ne 12, 148, 0, 0), none, none, some (.aload_n 0, 0, 0, 0), some (.getfield 64, 10, 23, 0), none, none, some (.iload_n 1, 0, 0, 0)],
  [some (.laload, 0, 0, 0), some (.goto 5, 150, 0, 0), none, none, some (.lload 4, 0, 0, 0), none, some (.lastore, 0, 0, 0), some (.return_, 0, 0, 0), none, none, none, none, none, none, none, none]])
def xm204 : XM := (yX10_nearer, cX10_nearer, 5, (some .int), 2, 44, 0, 0, 10, [[some (.aload_n 0, 0, 0, 0), some (.getfield 64, 10, 23, 0), none, none, some (.iload_n 1, 0, 0, 0), some (.laload, 0, 0, 0), some (.invokestatic 257, 205, 1, 0), none, none, some (.istore_n 3, 0, 0, 0), some (.iconst 1, 0, 0, 1), some (.istore 4, 0, 0, 0), none, some (.iload 4, 0, 0, 0), none, some (.iconst 4, 0, 0, 4)],
  [some (.if_icmp .gt 31, 47, 0, 0), none, none, some (.aload_n 0, 0, 0, 0), some (.iload_n 3, 0, 0, 0), some (.iload 4, 0, 0, 0), none, some (.invokevirtual 197, 186, 3, 0), none, none, some (.iload_n 2, 0, 0, 0), some (.invokestatic 260, 206, 2, 0), none, none, some (.iload_n 3, 0, 0, 0), some (.iload_n 2, 0, 0, 0)],
  [some (.invokestatic 260, 206, 2, 0), none, none, some (.if_icmp .ge 6, 41, 0, 0), none, none, some (.iload 4, 0, 0, 0), none, some (.ireturn, 0, 0, 0), some (.iinc 4 1, 0, 0, 1), none, none, some (.goto (-31), 13, 0, 0), none, none, some (.iconst 0, 0, 0, 0)],
  [some (.ireturn, 0, 0, 0), none, none, none, none, none, none, none, none, none, none, none, none, none, none, none]])
def xm205 : XM := (yX10_least, cX10_least, 3, (some .int), 1, 22, 0, 0, 10, [[some (.iconst 0, 0, 0, 0), some (.istore_n 2, 0, 0, 0), some (.lload_n 0, 0, 0, 0), some (.iload_n 2, 0, 0, 0), some (.invokestatic 150, 192, 2, 0), none, none, some (.ifCond .ne 9, 16, 0, 0), none, none, some (.iinc 2 1, 0, 0, 1), none, none, some (.goto (-11), 2, 0, 0), none, none],
  [some (.iload_n 2, 0, 0, 0), some (.ireturn, 0, 0, 0), none, none, none, none, none, none, none, none, none, none, none, none, none, none]])
def xm206 : XM := (yX10_apart, cX10_apart, 4, (some .int), 0, 0, 0, 0, 10, [[some (.iload_n 0, 0, 0, 0), some (.bipush 8, 0, 0, 8), none, some (.irem, 0, 0, 0), some (.iload_n 1, 0, 0, 0), some (.bipush 8, 0, 0, 8), none, some (.irem, 0, 0, 0), some (.isub, 0, 0, 0), some (.istore_n 2, 0, 0, 0), some (.iload_n 0, 0, 0, 0), some (.bipush 8, 0, 0, 8), none, some (.idiv, 0, 0, 0), some (.iload_n 1, 0, 0, 0), some (.bipush 8, 0, 0, 8)],
  [none, some (.idiv, 0, 0, 0), some (.isub, 0, 0, 0), some (.istore_n 3, 0, 0, 0), some (.iload_n 2, 0, 0, 0), some (.ifCond .ge 8, 29, 0, 0), none, none, some (.iload_n 2, 0, 0, 0), some (.ineg, 0, 0, 0), some (.goto 4, 30, 0, 0), none, none, some (.iload_n 2, 0, 0, 0), some (.iload_n 3, 0, 0, 0), some (.ifCond .ge 8, 39, 0, 0)],
  [none, none, some (.iload_n 3, 0, 0, 0), some (.ineg, 0, 0, 0), some (.goto 4, 40, 0, 0), none, none, some (.iload_n 3, 0, 0, 0), some (.iadd, 0, 0, 0), some (.ireturn, 0, 0, 0), none, none, none, none, none, none]])
def xm207 : XM := (yX10_look, cX10_look, 3, (some .int), 2, 42, 0, 0, 10, [[some (.iload_n 1, 0, 0, 0), some (.invokestatic 204, 188, 1, 0), none, none, some (.ifCond .ne 5, 9, 0, 0), none, none, some (.iconst (-1), 0, 0, (-1)), some (.ireturn, 0, 0, 0), some (.aload_n 0, 0, 0, 0), some (.getfield 55, 10, 20, 0), none, none, some (.iload_n 1, 0, 0, 0), some (.iaload, 0, 0, 0), some (.iconst 1, 0, 0, 1)],
  [some (.if_icmp .ne 7, 23, 0, 0), none, none, some (.iconst 1, 0, 0, 1), some (.goto 4, 24, 0, 0), none, none, some (.iconst 4, 0, 0, 4), some (.istore_n 2, 0, 0, 0), some (.aload_n 0, 0, 0, 0), some (.iload_n 1, 0, 0, 0), some (.invokevirtual 226, 197, 2, 0), none, none, some (.ifCond .eq 13, 43, 0, 0), none],
  [none, some (.aload_n 0, 0, 0, 0), some (.getfield 61, 10, 22, 0), none, none, some (.iload_n 1, 0, 0, 0), some (.iaload, 0, 0, 0), some (.iload_n 2, 0, 0, 0), some (.if_icmp .ge 6, 46, 0, 0), none, none, some (.bipush (-4), 0, 0, (-4)), none, some (.ireturn, 0, 0, 0), some (.aload_n 0, 0, 0, 0), some (.getfield 210, 10, 30, 0)],
  [none, none, some (.bipush 40, 0, 0, 40), none, some (.if_icmp .ne 6, 58, 0, 0), none, none, some (.bipush (-2), 0, 0, (-2)), none, some (.ireturn, 0, 0, 0), some (.aload_n 0, 0, 0, 0), some (.getfield 61, 10, 22, 0), none, none, some (.iload_n 1, 0, 0, 0), some (.dup2, 0, 0, 0)],
  [some (.iaload, 0, 0, 0), some (.iload_n 2, 0, 0, 0), some (.isub, 0, 0, 0), some (.iastore, 0, 0, 0), some (.aload_n 0, 0, 0, 0), some (.getfield 86, 10, 31, 0), none, none, some (.aload_n 0, 0, 0, 0), some (.getfield 210, 10, 30, 0), none, none, some (.aload_n 0, 0, 0, 0), some (.getfield 58, 10, 21, 0), none, none],
  [some (.iload_n 1, 0, 0, 0), some (.iaload, 0, 0, 0), some (.iastore, 0, 0, 0), some (.aload_n 0, 0, 0, 0), some (.getfield 89, 10, 32, 0), none, none, some (.aload_n 0, 0, 0, 0), some (.getfield 210, 10, 30, 0), none, none, some (.aload_n 0, 0, 0, 0), some (.getfield 42, 10, 15, 0), none, none, some (.aload_n 0, 0, 0, 0)],
  [some (.getfield 58, 10, 21, 0), none, none, some (.iload_n 1, 0, 0, 0), some (.iaload, 0, 0, 0), some (.iaload, 0, 0, 0), some (.iastore, 0, 0, 0), some (.aload_n 0, 0, 0, 0), some (.getfield 92, 10, 33, 0), none, none, some (.aload_n 0, 0, 0, 0), some (.getfield 210, 10, 30, 0), none, none, some (.iconst 1, 0, 0, 1)],
  [some (.iload_n 1, 0, 0, 0), some (.ishl, 0, 0, 0), some (.iastore, 0, 0, 0), some (.aload_n 0, 0, 0, 0), some (.getfield 95, 10, 34, 0), none, none, some (.aload_n 0, 0, 0, 0), some (.getfield 210, 10, 30, 0), none, none, some (.aload_n 0, 0, 0, 0), some (.getfield 207, 10, 6, 0), none, none, some (.iastore, 0, 0, 0)],
  [some (.aload_n 0, 0, 0, 0), some (.getfield 98, 10, 35, 0), none, none, some (.aload_n 0, 0, 0, 0), some (.getfield 210, 10, 30, 0), none, none, some (.iload_n 1, 0, 0, 0), some (.iastore, 0, 0, 0), some (.aload_n 0, 0, 0, 0), some (.getfield 80, 10, 28, 0), none, none, some (.iload_n 1, 0, 0, 0), some (.dup2, 0, 0, 0)],
  [some (.iaload, 0, 0, 0), some (.iconst 1, 0, 0, 1), some (.iadd, 0, 0, 0), some (.iastore, 0, 0, 0), some (.aload_n 0, 0, 0, 0), some (.dup, 0, 0, 0), some (.getfield 210, 10, 30, 0), none, none, some (.iconst 1, 0, 0, 1), some (.iadd, 0, 0, 0), some (.putfield 210, 10, 30, 0), none, none, some (.aload_n 0, 0, 0, 0), some (.getfield 210, 10, 30, 0)],
  [none, none, some (.iconst 1, 0, 0, 1), some (.isub, 0, 0, 0), some (.ireturn, 0, 0, 0), none, none, none, none, none, none, none, none, none, none, none]])
def xm208 : XM := (yX10_looked, cX10_looked, 3, (some .int), 2, 43, 0, 0, 10, [[some (.aload_n 0, 0, 0, 0), some (.iload_n 1, 0, 0, 0), some (.invokevirtual 240, 209, 2, 0), none, none, some (.ifCond .eq 26, 31, 0, 0), none, none, some (.iload_n 2, 0, 0, 0), some (.iconst 0, 0, 0, 0), some (.iconst 3, 0, 0, 3), some (.invokestatic 146, 160, 3, 0), none, none, some (.ifCond .eq 17, 31, 0, 0), none],
  [none, some (.aload_n 0, 0, 0, 0), some (.aload_n 0, 0, 0, 0), some (.iload_n 1, 0, 0, 0), some (.iload_n 2, 0, 0, 0), some (.invokevirtual 243, 210, 3, 0), none, none, some (.iconst 1, 0, 0, 1), some (.invokevirtual 172, 168, 3, 0), none, none, some (.goto 4, 32, 0, 0), none, none, some (.iconst (-1), 0, 0, (-1))],
  [some (.ireturn, 0, 0, 0), none, none, none, none, none, none, none, none, none, none, none, none, none, none, none]])
def xm209 : XM := (yX10_isLook, cX10_isLook, 2, (some .boolean), 1, 22, 0, 0, 10, [[some (.iload_n 1, 0, 0, 0), some (.iconst 0, 0, 0, 0), some (.aload_n 0, 0, 0, 0), some (.getfield 210, 10, 30, 0), none, none, some (.iconst 1, 0, 0, 1), some (.isub, 0, 0, 0), some (.invokestatic 146, 160, 3, 0), none, none, some (.ireturn, 0, 0, 0), none, none, none, none]])
def xm210 : XM := (yX10_lookTells, cX10_lookTells, 3, (some .int), 0, 0, 0, 0, 10, [[some (.iload_n 2, 0, 0, 0), some (.ifCond .ne 12, 13, 0, 0), none, none, some (.aload_n 0, 0, 0, 0), some (.getfield 86, 10, 31, 0), none, none, some (.iload_n 1, 0, 0, 0), some (.iaload, 0, 0, 0), some (.goto 37, 47, 0, 0), none, none, some (.iload_n 2, 0, 0, 0), some (.iconst 1, 0, 0, 1), some (.if_icmp .ne 12, 27, 0, 0)],
  [none, none, some (.aload_n 0, 0, 0, 0), some (.getfield 89, 10, 32, 0), none, none, some (.iload_n 1, 0, 0, 0), some (.iaload, 0, 0, 0), some (.goto 23, 47, 0, 0), none, none, some (.iload_n 2, 0, 0, 0), some (.iconst 2, 0, 0, 2), some (.if_icmp .ne 12, 41, 0, 0), none, none],
  [some (.aload_n 0, 0, 0, 0), some (.getfield 92, 10, 33, 0), none, none, some (.iload_n 1, 0, 0, 0), some (.iaload, 0, 0, 0), some (.goto 9, 47, 0, 0), none, none, some (.aload_n 0, 0, 0, 0), some (.getfield 95, 10, 34, 0), none, none, some (.iload_n 1, 0, 0, 0), some (.iaload, 0, 0, 0), some (.ireturn, 0, 0, 0)]])
def xm211 : XM := (yX10_match, cX10_match, 7, (some .int), 2, 45, 0, 0, 10, [[some (.iload_n 1, 0, 0, 0), some (.invokestatic 204, 188, 1, 0), none, none, some (.ifCond .ne 5, 9, 0, 0), none, none, some (.iconst (-1), 0, 0, (-1)), some (.ireturn, 0, 0, 0), some (.bipush (-9), 0, 0, (-9)), none, some (.istore_n 2, 0, 0, 0), some (.iconst 0, 0, 0, 0), some (.istore_n 3, 0, 0, 0), some (.iload_n 3, 0, 0, 0), some (.aload_n 0, 0, 0, 0)],
  [some (.getfield 210, 10, 30, 0), none, none, some (.if_icmp .ge 25, 44, 0, 0), none, none, some (.aload_n 0, 0, 0, 0), some (.getfield 98, 10, 35, 0), none, none, some (.iload_n 3, 0, 0, 0), some (.iaload, 0, 0, 0), some (.iload_n 1, 0, 0, 0), some (.if_icmp .ne 7, 36, 0, 0), none, none],
  [some (.iload_n 3, 0, 0, 0), some (.goto 4, 37, 0, 0), none, none, some (.iload_n 2, 0, 0, 0), some (.istore_n 2, 0, 0, 0), some (.iinc 3 1, 0, 0, 1), none, none, some (.goto (-27), 14, 0, 0), none, none, some (.iload_n 2, 0, 0, 0), some (.ifCond .lt 16, 61, 0, 0), none, none],
  [some (.aload_n 0, 0, 0, 0), some (.getfield 95, 10, 34, 0), none, none, some (.iload_n 2, 0, 0, 0), some (.iaload, 0, 0, 0), some (.aload_n 0, 0, 0, 0), some (.getfield 207, 10, 6, 0), none, none, some (.if_icmp .eq 6, 64, 0, 0), none, none, some (.bipush (-4), 0, 0, (-4)), none, some (.ireturn, 0, 0, 0)],
  [some (.lconst 0, 0, 0, 0), some (.lstore_n 3, 0, 0, 0), some (.iconst 0, 0, 0, 0), some (.istore 5, 0, 0, 0), none, some (.iload 5, 0, 0, 0), none, some (.bipush 64, 0, 0, 64), none, some (.if_icmp .ge 74, 147, 0, 0), none, none, some (.aload_n 0, 0, 0, 0), some (.getfield 45, 10, 16, 0), none, none],
  [some (.iload 5, 0, 0, 0), none, some (.iaload, 0, 0, 0), some (.bipush (-9), 0, 0, (-9)), none, some (.if_icmp .eq 19, 104, 0, 0), none, none, some (.aload_n 0, 0, 0, 0), some (.getfield 45, 10, 16, 0), none, none, some (.iload 5, 0, 0, 0), none, some (.iaload, 0, 0, 0), some (.aload_n 0, 0, 0, 0)],
  [some (.getfield 89, 10, 32, 0), none, none, some (.iload_n 2, 0, 0, 0), some (.iaload, 0, 0, 0), some (.if_icmp .ne 7, 108, 0, 0), none, none, some (.iconst 1, 0, 0, 1), some (.goto 4, 109, 0, 0), none, none, some (.iconst 0, 0, 0, 0), some (.istore 6, 0, 0, 0), none, some (.lload_n 3, 0, 0, 0)],
  [some (.aload_n 0, 0, 0, 0), some (.getfield 64, 10, 23, 0), none, none, some (.iload_n 1, 0, 0, 0), some (.laload, 0, 0, 0), some (.iload 5, 0, 0, 0), none, some (.invokestatic 150, 192, 2, 0), none, none, some (.ifCond .eq 15, 138, 0, 0), none, none, some (.iload 6, 0, 0, 0), none],
  [some (.ifCond .eq 10, 138, 0, 0), none, none, some (.lconst 1, 0, 0, 1), some (.iload 5, 0, 0, 0), none, some (.lshl, 0, 0, 0), some (.goto 4, 139, 0, 0), none, none, some (.lconst 0, 0, 0, 0), some (.lor, 0, 0, 0), some (.lstore_n 3, 0, 0, 0), some (.iinc 5 1, 0, 0, 1), none, none],
  [some (.goto (-75), 69, 0, 0), none, none, some (.aload_n 0, 0, 0, 0), some (.getfield 64, 10, 23, 0), none, none, some (.iload_n 1, 0, 0, 0), some (.lload_n 3, 0, 0, 0), some (.lconst 0, 0, 0, 0), some (.lcmp, 0, 0, 0), some (.ifCond .ne 12, 167, 0, 0), none, none, some (.aload_n 0, 0, 0, 0), some (.getfield 64, 10, 23, 0)],
  [none, none, some (.iload_n 1, 0, 0, 0), some (.laload, 0, 0, 0), some (.goto 4, 168, 0, 0), none, none, some (.lload_n 3, 0, 0, 0), some (.lastore, 0, 0, 0), some (.aload_n 0, 0, 0, 0), some (.getfield 64, 10, 23, 0), none, none, some (.iload_n 1, 0, 0, 0), some (.laload, 0, 0, 0), some (.invokestatic 213, 191, 1, 0)],
  [none, none, some (.ireturn, 0, 0, 0), none, none, none, none, none, none, none, none, none, none, none, none, none]])
def xm212 : XM := (yX10_home, cX10_home, 2, (some .int), 2, 42, 0, 0, 10, [[some (.iload_n 1, 0, 0, 0), some (.invokestatic 204, 188, 1, 0), none, none, some (.ifCond .ne 5, 9, 0, 0), none, none, some (.iconst (-1), 0, 0, (-1)), some (.ireturn, 0, 0, 0), some (.aload_n 0, 0, 0, 0), some (.iload_n 1, 0, 0, 0), some (.invokevirtual 226, 197, 2, 0), none, none, some (.ifCond .eq 16, 30, 0, 0), none],
  [none, some (.aload_n 0, 0, 0, 0), some (.getfield 58, 10, 21, 0), none, none, some (.iload_n 1, 0, 0, 0), some (.iaload, 0, 0, 0), some (.aload_n 0, 0, 0, 0), some (.getfield 178, 10, 17, 0), none, none, some (.if_icmp .eq 6, 33, 0, 0), none, none, some (.bipush (-4), 0, 0, (-4)), none],
  [some (.ireturn, 0, 0, 0), some (.aload_n 0, 0, 0, 0), some (.getfield 55, 10, 20, 0), none, none, some (.iload_n 1, 0, 0, 0), some (.bipush 6, 0, 0, 6), none, some (.iastore, 0, 0, 0), some (.iconst 1, 0, 0, 1), some (.ireturn, 0, 0, 0), none, none, none, none, none]])
def xm213 : XM := (yX10_say, cX10_say, 7, (some .int), 3, 65, 0, 0, 10, [[some (.iload_n 1, 0, 0, 0), some (.invokestatic 204, 188, 1, 0), none, none, some (.ifCond .eq 21, 25, 0, 0), none, none, some (.iload_n 2, 0, 0, 0), some (.iconst 0, 0, 0, 0), some (.iconst 5, 0, 0, 5), some (.invokestatic 146, 160, 3, 0), none, none, some (.ifCond .eq 12, 25, 0, 0), none, none],
  [some (.aload_n 0, 0, 0, 0), some (.iload_n 2, 0, 0, 0), some (.iload_n 3, 0, 0, 0), some (.invokevirtual 246, 214, 3, 0), none, none, some (.ifCond .ne 5, 27, 0, 0), none, none, some (.iconst (-1), 0, 0, (-1)), some (.ireturn, 0, 0, 0), some (.aload_n 0, 0, 0, 0), some (.iload_n 1, 0, 0, 0), some (.invokevirtual 226, 197, 2, 0), none, none],
  [some (.ifCond .eq 44, 76, 0, 0), none, none, some (.aload_n 0, 0, 0, 0), some (.getfield 74, 10, 26, 0), none, none, some (.iload_n 1, 0, 0, 0), some (.iaload, 0, 0, 0), some (.aload_n 0, 0, 0, 0), some (.getfield 207, 10, 6, 0), none, none, some (.if_icmp .eq 31, 76, 0, 0), none, none],
  [some (.aload_n 0, 0, 0, 0), some (.getfield 61, 10, 22, 0), none, none, some (.iload_n 1, 0, 0, 0), some (.iaload, 0, 0, 0), some (.iconst 3, 0, 0, 3), some (.if_icmp .lt 21, 76, 0, 0), none, none, some (.iload_n 2, 0, 0, 0), some (.iconst 2, 0, 0, 2), some (.if_icmp .ne 19, 79, 0, 0), none, none, some (.aload_n 0, 0, 0, 0)],
  [some (.getfield 92, 10, 33, 0), none, none, some (.iload_n 3, 0, 0, 0), some (.iaload, 0, 0, 0), some (.iload_n 1, 0, 0, 0), some (.ishr, 0, 0, 0), some (.iconst 1, 0, 0, 1), some (.iand, 0, 0, 0), some (.ifCond .ne 6, 79, 0, 0), none, none, some (.bipush (-4), 0, 0, (-4)), none, some (.ireturn, 0, 0, 0), some (.aload_n 0, 0, 0, 0)],
  [some (.getfield 250, 10, 36, 0), none, none, some (.bipush 40, 0, 0, 40), none, some (.if_icmp .ne 6, 91, 0, 0), none, none, some (.bipush (-2), 0, 0, (-2)), none, some (.ireturn, 0, 0, 0), some (.aload_n 0, 0, 0, 0), some (.getfield 61, 10, 22, 0), none, none, some (.iload_n 1, 0, 0, 0)],
  [some (.dup2, 0, 0, 0), some (.iaload, 0, 0, 0), some (.iconst 3, 0, 0, 3), some (.isub, 0, 0, 0), some (.iastore, 0, 0, 0), some (.aload_n 0, 0, 0, 0), some (.getfield 74, 10, 26, 0), none, none, some (.iload_n 1, 0, 0, 0), some (.aload_n 0, 0, 0, 0), some (.getfield 207, 10, 6, 0), none, none, some (.iastore, 0, 0, 0), some (.aload_n 0, 0, 0, 0)],
  [some (.getfield 77, 10, 27, 0), none, none, some (.iload_n 1, 0, 0, 0), some (.dup2, 0, 0, 0), some (.iaload, 0, 0, 0), some (.iconst 1, 0, 0, 1), some (.iadd, 0, 0, 0), some (.iastore, 0, 0, 0), some (.aload_n 0, 0, 0, 0), some (.getfield 101, 10, 37, 0), none, none, some (.aload_n 0, 0, 0, 0), some (.getfield 250, 10, 36, 0), none],
  [none, some (.iload_n 2, 0, 0, 0), some (.iastore, 0, 0, 0), some (.aload_n 0, 0, 0, 0), some (.getfield 104, 10, 38, 0), none, none, some (.aload_n 0, 0, 0, 0), some (.getfield 250, 10, 36, 0), none, none, some (.iload_n 1, 0, 0, 0), some (.iastore, 0, 0, 0), some (.aload_n 0, 0, 0, 0), some (.getfield 107, 10, 39, 0), none],
  [none, some (.aload_n 0, 0, 0, 0), some (.getfield 250, 10, 36, 0), none, none, some (.aload_n 0, 0, 0, 0), some (.getfield 207, 10, 6, 0), none, none, some (.iastore, 0, 0, 0), some (.aload_n 0, 0, 0, 0), some (.getfield 110, 10, 40, 0), none, none, some (.aload_n 0, 0, 0, 0), some (.getfield 250, 10, 36, 0)],
  [none, none, some (.iload_n 2, 0, 0, 0), some (.iconst 2, 0, 0, 2), some (.if_icmp .eq 13, 177, 0, 0), none, none, some (.iload_n 2, 0, 0, 0), some (.iconst 3, 0, 0, 3), some (.if_icmp .eq 8, 177, 0, 0), none, none, some (.iload_n 2, 0, 0, 0), some (.iconst 4, 0, 0, 4), some (.if_icmp .ne 7, 181, 0, 0), none],
  [none, some (.iload_n 3, 0, 0, 0), some (.goto 4, 182, 0, 0), none, none, some (.iconst 0, 0, 0, 0), some (.iastore, 0, 0, 0), some (.aload_n 0, 0, 0, 0), some (.getfield 113, 10, 41, 0), none, none, some (.aload_n 0, 0, 0, 0), some (.getfield 250, 10, 36, 0), none, none, some (.aload_n 0, 0, 0, 0)],
  [some (.getfield 64, 10, 23, 0), none, none, some (.iload_n 1, 0, 0, 0), some (.laload, 0, 0, 0), some (.lastore, 0, 0, 0), some (.aload_n 0, 0, 0, 0), some (.aload_n 0, 0, 0, 0), some (.getfield 58, 10, 21, 0), none, none, some (.iload_n 1, 0, 0, 0), some (.iaload, 0, 0, 0), some (.invokevirtual 200, 185, 2, 0), none, none],
  [some (.iconst 0, 0, 0, 0), some (.istore 4, 0, 0, 0), none, some (.iload 4, 0, 0, 0), none, some (.bipush 6, 0, 0, 6), none, some (.if_icmp .ge 121, 336, 0, 0), none, none, some (.aload_n 0, 0, 0, 0), some (.getfield 52, 10, 19, 0), none, none, some (.aload_n 0, 0, 0, 0), some (.getfield 58, 10, 21, 0)],
  [none, none, some (.iload 4, 0, 0, 0), none, some (.iaload, 0, 0, 0), some (.iaload, 0, 0, 0), some (.istore 5, 0, 0, 0), none, some (.iload 4, 0, 0, 0), none, some (.iload_n 1, 0, 0, 0), some (.if_icmp .eq 19, 254, 0, 0), none, none, some (.aload_n 0, 0, 0, 0), some (.iload 4, 0, 0, 0)],
  [none, some (.invokevirtual 226, 197, 2, 0), none, none, some (.ifCond .eq 10, 254, 0, 0), none, none, some (.iload 5, 0, 0, 0), none, some (.bipush 12, 0, 0, 12), none, some (.if_icmp .le 7, 258, 0, 0), none, none, some (.iconst 1, 0, 0, 1), some (.goto 4, 259, 0, 0)],
  [none, none, some (.iconst 0, 0, 0, 0), some (.istore 6, 0, 0, 0), none, some (.aload_n 0, 0, 0, 0), some (.getfield 116, 10, 42, 0), none, none, some (.bipush 6, 0, 0, 6), none, some (.aload_n 0, 0, 0, 0), some (.getfield 250, 10, 36, 0), none, none, some (.imul, 0, 0, 0)],
  [some (.iload 4, 0, 0, 0), none, some (.iadd, 0, 0, 0), some (.iload 6, 0, 0, 0), none, some (.ifCond .eq 8, 285, 0, 0), none, none, some (.bipush (-9), 0, 0, (-9)), none, some (.goto 20, 302, 0, 0), none, none, some (.aload_n 0, 0, 0, 0), some (.getfield 207, 10, 6, 0), none],
  [none, some (.iload 5, 0, 0, 0), none, some (.iconst 1, 0, 0, 1), some (.if_icmp .ge 7, 299, 0, 0), none, none, some (.iconst 1, 0, 0, 1), some (.goto 5, 301, 0, 0), none, none, some (.iload 5, 0, 0, 0), none, some (.iadd, 0, 0, 0), some (.iastore, 0, 0, 0), some (.aload_n 0, 0, 0, 0)],
  [some (.getfield 119, 10, 43, 0), none, none, some (.bipush 6, 0, 0, 6), none, some (.aload_n 0, 0, 0, 0), some (.getfield 250, 10, 36, 0), none, none, some (.imul, 0, 0, 0), some (.iload 4, 0, 0, 0), none, some (.iadd, 0, 0, 0), some (.iload 6, 0, 0, 0), none, some (.ifCond .eq 8, 327, 0, 0)],
  [none, none, some (.bipush (-11), 0, 0, (-11)), none, some (.goto 5, 329, 0, 0), none, none, some (.bipush (-9), 0, 0, (-9)), none, some (.iastore, 0, 0, 0), some (.iinc 4 1, 0, 0, 1), none, none, some (.goto (-122), 211, 0, 0), none, none],
  [some (.aload_n 0, 0, 0, 0), some (.dup, 0, 0, 0), some (.getfield 250, 10, 36, 0), none, none, some (.iconst 1, 0, 0, 1), some (.iadd, 0, 0, 0), some (.putfield 250, 10, 36, 0), none, none, some (.aload_n 0, 0, 0, 0), some (.getfield 250, 10, 36, 0), none, none, some (.iconst 1, 0, 0, 1), some (.isub, 0, 0, 0)],
  [some (.ireturn, 0, 0, 0), none, none, none, none, none, none, none, none, none, none, none, none, none, none, none]])
def xm214 : XM := (yX10_isSaid, cX10_isSaid, 3, (some .boolean), 2, 43, 0, 0, 10, [[some (.iload_n 1, 0, 0, 0), some (.iconst 2, 0, 0, 2), some (.if_icmp .ne 11, 13, 0, 0), none, none, some (.aload_n 0, 0, 0, 0), some (.iload_n 2, 0, 0, 0), some (.invokevirtual 240, 209, 2, 0), none, none, some (.goto 32, 42, 0, 0), none, none, some (.iload_n 1, 0, 0, 0), some (.iconst 3, 0, 0, 3), some (.if_icmp .ne 10, 25, 0, 0)],
  [none, none, some (.iload_n 2, 0, 0, 0), some (.invokestatic 187, 177, 1, 0), none, none, some (.goto 20, 42, 0, 0), none, none, some (.iload_n 1, 0, 0, 0), some (.iconst 4, 0, 0, 4), some (.if_icmp .ne 10, 37, 0, 0), none, none, some (.iload_n 2, 0, 0, 0), some (.invokestatic 181, 174, 1, 0)],
  [none, none, some (.ifCond .eq 7, 41, 0, 0), none, none, some (.iconst 1, 0, 0, 1), some (.goto 4, 42, 0, 0), none, none, some (.iconst 0, 0, 0, 0), some (.ireturn, 0, 0, 0), none, none, none, none, none]])
def xm215 : XM := (yX10_word, cX10_word, 3, (some .int), 2, 43, 0, 0, 10, [[some (.aload_n 0, 0, 0, 0), some (.iload_n 1, 0, 0, 0), some (.invokevirtual 269, 216, 2, 0), none, none, some (.ifCond .eq 26, 31, 0, 0), none, none, some (.iload_n 2, 0, 0, 0), some (.iconst 0, 0, 0, 0), some (.iconst 3, 0, 0, 3), some (.invokestatic 146, 160, 3, 0), none, none, some (.ifCond .eq 17, 31, 0, 0), none],
  [none, some (.aload_n 0, 0, 0, 0), some (.aload_n 0, 0, 0, 0), some (.iload_n 1, 0, 0, 0), some (.iload_n 2, 0, 0, 0), some (.invokevirtual 272, 217, 3, 0), none, none, some (.iconst 1, 0, 0, 1), some (.invokevirtual 172, 168, 3, 0), none, none, some (.goto 4, 32, 0, 0), none, none, some (.iconst (-1), 0, 0, (-1))],
  [some (.ireturn, 0, 0, 0), none, none, none, none, none, none, none, none, none, none, none, none, none, none, none]])
def xm216 : XM := (yX10_isWord, cX10_isWord, 2, (some .boolean), 1, 22, 0, 0, 10, [[some (.iload_n 1, 0, 0, 0), some (.iconst 0, 0, 0, 0), some (.aload_n 0, 0, 0, 0), some (.getfield 250, 10, 36, 0), none, none, some (.iconst 1, 0, 0, 1), some (.isub, 0, 0, 0), some (.invokestatic 146, 160, 3, 0), none, none, some (.ireturn, 0, 0, 0), none, none, none, none]])
def xm217 : XM := (yX10_wordTells, cX10_wordTells, 3, (some .int), 0, 0, 0, 0, 10, [[some (.iload_n 2, 0, 0, 0), some (.ifCond .ne 12, 13, 0, 0), none, none, some (.aload_n 0, 0, 0, 0), some (.getfield 101, 10, 37, 0), none, none, some (.iload_n 1, 0, 0, 0), some (.iaload, 0, 0, 0), some (.goto 37, 47, 0, 0), none, none, some (.iload_n 2, 0, 0, 0), some (.iconst 1, 0, 0, 1), some (.if_icmp .ne 12, 27, 0, 0)],
  [none, none, some (.aload_n 0, 0, 0, 0), some (.getfield 104, 10, 38, 0), none, none, some (.iload_n 1, 0, 0, 0), some (.iaload, 0, 0, 0), some (.goto 23, 47, 0, 0), none, none, some (.iload_n 2, 0, 0, 0), some (.iconst 2, 0, 0, 2), some (.if_icmp .ne 12, 41, 0, 0), none, none],
  [some (.aload_n 0, 0, 0, 0), some (.getfield 107, 10, 39, 0), none, none, some (.iload_n 1, 0, 0, 0), some (.iaload, 0, 0, 0), some (.goto 9, 47, 0, 0), none, none, some (.aload_n 0, 0, 0, 0), some (.getfield 110, 10, 40, 0), none, none, some (.iload_n 1, 0, 0, 0), some (.iaload, 0, 0, 0), some (.ireturn, 0, 0, 0)]])
def xm218 : XM := (yX10_tells, cX10_tells, 5, (some .int), 2, 45, 0, 0, 10, [[some (.aload_n 0, 0, 0, 0), some (.iload_n 1, 0, 0, 0), some (.invokevirtual 269, 216, 2, 0), none, none, some (.ifCond .eq 12, 17, 0, 0), none, none, some (.iload_n 2, 0, 0, 0), some (.iconst 1, 0, 0, 1), some (.iconst 5, 0, 0, 5), some (.invokestatic 146, 160, 3, 0), none, none, some (.ifCond .ne 5, 19, 0, 0), none],
  [none, some (.iconst (-1), 0, 0, (-1)), some (.ireturn, 0, 0, 0), some (.aload_n 0, 0, 0, 0), some (.getfield 101, 10, 37, 0), none, none, some (.iload_n 1, 0, 0, 0), some (.iaload, 0, 0, 0), some (.iload_n 2, 0, 0, 0), some (.if_icmp .eq 24, 50, 0, 0), none, none, some (.iload_n 2, 0, 0, 0), some (.iconst 3, 0, 0, 3), some (.if_icmp .ne 13, 44, 0, 0)],
  [none, none, some (.aload_n 0, 0, 0, 0), some (.getfield 101, 10, 37, 0), none, none, some (.iload_n 1, 0, 0, 0), some (.iaload, 0, 0, 0), some (.iconst 3, 0, 0, 3), some (.if_icmp .gt 9, 50, 0, 0), none, none, some (.aload_n 0, 0, 0, 0), some (.iconst 3, 0, 0, 3), some (.invokevirtual 158, 161, 2, 0), none],
  [none, some (.ireturn, 0, 0, 0), some (.iconst 0, 0, 0, 0), some (.istore_n 3, 0, 0, 0), some (.iload_n 2, 0, 0, 0), some (.tableswitch 101 1 4 #[31, 41, 53, 94], 0, 0, 0), none, none, none, none, none, none, none, none, none, none],
  [none, none, none, none, none, none, none, none, none, none, none, none, none, none, none, none],
  [none, none, none, none, some (.aload_n 0, 0, 0, 0), some (.getfield 113, 10, 41, 0), none, none, some (.iload_n 1, 0, 0, 0), some (.laload, 0, 0, 0), some (.invokestatic 213, 191, 1, 0), none, none, some (.ireturn, 0, 0, 0), some (.aload_n 0, 0, 0, 0), some (.getfield 89, 10, 32, 0)],
  [none, none, some (.aload_n 0, 0, 0, 0), some (.getfield 110, 10, 40, 0), none, none, some (.iload_n 1, 0, 0, 0), some (.iaload, 0, 0, 0), some (.iaload, 0, 0, 0), some (.ireturn, 0, 0, 0), some (.iconst 0, 0, 0, 0), some (.istore 4, 0, 0, 0), none, some (.iload 4, 0, 0, 0), none, some (.bipush 6, 0, 0, 6)],
  [none, some (.if_icmp .ge 32, 145, 0, 0), none, none, some (.iload_n 3, 0, 0, 0), some (.aload_n 0, 0, 0, 0), some (.getfield 119, 10, 43, 0), none, none, some (.bipush 6, 0, 0, 6), none, some (.iload_n 1, 0, 0, 0), some (.imul, 0, 0, 0), some (.iload 4, 0, 0, 0), none, some (.iadd, 0, 0, 0)],
  [some (.iaload, 0, 0, 0), some (.ifCond .lt 7, 136, 0, 0), none, none, some (.iconst 1, 0, 0, 1), some (.goto 4, 137, 0, 0), none, none, some (.iconst 0, 0, 0, 0), some (.iadd, 0, 0, 0), some (.istore_n 3, 0, 0, 0), some (.iinc 4 1, 0, 0, 1), none, none, some (.goto (-33), 109, 0, 0), none],
  [none, some (.iload_n 3, 0, 0, 0), some (.ireturn, 0, 0, 0), some (.aload_n 0, 0, 0, 0), some (.getfield 110, 10, 40, 0), none, none, some (.iload_n 1, 0, 0, 0), some (.iaload, 0, 0, 0), some (.ireturn, 0, 0, 0), some (.aload_n 0, 0, 0, 0), some (.getfield 58, 10, 21, 0), none, none, some (.aload_n 0, 0, 0, 0), some (.getfield 104, 10, 38, 0)],
  [none, none, some (.iload_n 1, 0, 0, 0), some (.iaload, 0, 0, 0), some (.iaload, 0, 0, 0), some (.aload_n 0, 0, 0, 0), some (.getfield 178, 10, 17, 0), none, none, some (.invokestatic 260, 206, 2, 0), none, none, some (.ireturn, 0, 0, 0), none, none, none]])
def xm219 : XM := (yX10_heard, cX10_heard, 3, (some .int), 2, 43, 0, 0, 10, [[some (.aload_n 0, 0, 0, 0), some (.iload_n 1, 0, 0, 0), some (.invokevirtual 269, 216, 2, 0), none, none, some (.ifCond .eq 24, 29, 0, 0), none, none, some (.iload_n 2, 0, 0, 0), some (.invokestatic 204, 188, 1, 0), none, none, some (.ifCond .eq 17, 29, 0, 0), none, none, some (.aload_n 0, 0, 0, 0)],
  [some (.getfield 119, 10, 43, 0), none, none, some (.bipush 6, 0, 0, 6), none, some (.iload_n 1, 0, 0, 0), some (.imul, 0, 0, 0), some (.iload_n 2, 0, 0, 0), some (.iadd, 0, 0, 0), some (.iaload, 0, 0, 0), some (.goto 4, 30, 0, 0), none, none, some (.iconst (-1), 0, 0, (-1)), some (.ireturn, 0, 0, 0), none]])
def xm220 : XM := (yX10_knows, cX10_knows, 5, (some .int), 2, 50, 0, 0, 10, [[some (.aload_n 0, 0, 0, 0), some (.iload_n 1, 0, 0, 0), some (.invokevirtual 269, 216, 2, 0), none, none, some (.ifCond .eq 44, 49, 0, 0), none, none, some (.iload_n 2, 0, 0, 0), some (.invokestatic 204, 188, 1, 0), none, none, some (.ifCond .eq 37, 49, 0, 0), none, none, some (.iload_n 3, 0, 0, 0)],
  [some (.bipush (-9), 0, 0, (-9)), none, some (.if_icmp .eq 10, 28, 0, 0), none, none, some (.iload_n 3, 0, 0, 0), some (.invokestatic 204, 188, 1, 0), none, none, some (.ifCond .eq 24, 49, 0, 0), none, none, some (.iload 4, 0, 0, 0), none, some (.bipush (-9), 0, 0, (-9)), none],
  [some (.if_icmp .eq 19, 51, 0, 0), none, none, some (.iload 4, 0, 0, 0), none, some (.invokestatic 204, 188, 1, 0), none, none, some (.ifCond .eq 9, 49, 0, 0), none, none, some (.iload_n 3, 0, 0, 0), some (.bipush (-9), 0, 0, (-9)), none, some (.if_icmp .ne 5, 51, 0, 0), none],
  [none, some (.iconst (-1), 0, 0, (-1)), some (.ireturn, 0, 0, 0), some (.aload_n 0, 0, 0, 0), some (.iload_n 1, 0, 0, 0), some (.iload_n 2, 0, 0, 0), some (.iload_n 3, 0, 0, 0), some (.iload 4, 0, 0, 0), none, some (.invokevirtual 282, 221, 5, 0), none, none, some (.ireturn, 0, 0, 0), none, none, none]])
def xm221 : XM := (yX10_knowsOf, cX10_knowsOf, 5, (some .int), 1, 26, 0, 0, 10, [[some (.iload_n 3, 0, 0, 0), some (.bipush (-9), 0, 0, (-9)), none, some (.if_icmp .ne 12, 15, 0, 0), none, none, some (.aload_n 0, 0, 0, 0), some (.iload_n 1, 0, 0, 0), some (.iload_n 2, 0, 0, 0), some (.invokevirtual 275, 222, 3, 0), none, none, some (.goto 45, 57, 0, 0), none, none, some (.iload 4, 0, 0, 0)],
  [none, some (.bipush (-9), 0, 0, (-9)), none, some (.if_icmp .ne 18, 37, 0, 0), none, none, some (.aload_n 0, 0, 0, 0), some (.iload_n 2, 0, 0, 0), some (.iload_n 3, 0, 0, 0), some (.aload_n 0, 0, 0, 0), some (.iload_n 1, 0, 0, 0), some (.iload_n 3, 0, 0, 0), some (.invokevirtual 275, 222, 3, 0), none, none, some (.invokevirtual 278, 223, 4, 0)],
  [none, none, some (.goto 23, 57, 0, 0), none, none, some (.aload_n 0, 0, 0, 0), some (.iload_n 2, 0, 0, 0), some (.iload_n 3, 0, 0, 0), some (.aload_n 0, 0, 0, 0), some (.iload_n 3, 0, 0, 0), some (.iload 4, 0, 0, 0), none, some (.aload_n 0, 0, 0, 0), some (.iload_n 1, 0, 0, 0), some (.iload 4, 0, 0, 0), none],
  [some (.invokevirtual 275, 222, 3, 0), none, none, some (.invokevirtual 278, 223, 4, 0), none, none, some (.invokevirtual 278, 223, 4, 0), none, none, some (.ireturn, 0, 0, 0), none, none, none, none, none, none]])
def xm222 : XM := (yX10_knowsAt, cX10_knowsAt, 3, (some .int), 0, 0, 0, 0, 10, [[some (.aload_n 0, 0, 0, 0), some (.getfield 104, 10, 38, 0), none, none, some (.iload_n 1, 0, 0, 0), some (.iaload, 0, 0, 0), some (.iload_n 2, 0, 0, 0), some (.if_icmp .ne 12, 19, 0, 0), none, none, some (.aload_n 0, 0, 0, 0), some (.getfield 107, 10, 39, 0), none, none, some (.iload_n 1, 0, 0, 0), some (.iaload, 0, 0, 0)],
  [some (.goto 33, 49, 0, 0), none, none, some (.aload_n 0, 0, 0, 0), some (.getfield 119, 10, 43, 0), none, none, some (.bipush 6, 0, 0, 6), none, some (.iload_n 1, 0, 0, 0), some (.imul, 0, 0, 0), some (.iload_n 2, 0, 0, 0), some (.iadd, 0, 0, 0), some (.iaload, 0, 0, 0), some (.ifCond .lt 17, 47, 0, 0), none],
  [none, some (.aload_n 0, 0, 0, 0), some (.getfield 119, 10, 43, 0), none, none, some (.bipush 6, 0, 0, 6), none, some (.iload_n 1, 0, 0, 0), some (.imul, 0, 0, 0), some (.iload_n 2, 0, 0, 0), some (.iadd, 0, 0, 0), some (.iaload, 0, 0, 0), some (.goto 5, 49, 0, 0), none, none, some (.bipush (-9), 0, 0, (-9))],
  [none, some (.ireturn, 0, 0, 0), none, none, none, none, none, none, none, none, none, none, none, none, none, none]])
def xm223 : XM := (yX10_learns, cX10_learns, 7, (some .int), 0, 0, 0, 0, 10, [[some (.iload_n 1, 0, 0, 0), some (.iload_n 2, 0, 0, 0), some (.if_icmp .eq 7, 9, 0, 0), none, none, some (.iload_n 3, 0, 0, 0), some (.ifCond .ge 5, 11, 0, 0), none, none, some (.iload_n 3, 0, 0, 0), some (.ireturn, 0, 0, 0), some (.bipush (-9), 0, 0, (-9)), none, some (.istore 4, 0, 0, 0), none, some (.iconst 0, 0, 0, 0)],
  [some (.istore 5, 0, 0, 0), none, some (.iload 5, 0, 0, 0), none, some (.aload_n 0, 0, 0, 0), some (.getfield 250, 10, 36, 0), none, none, some (.if_icmp .ge 66, 90, 0, 0), none, none, some (.aload_n 0, 0, 0, 0), some (.getfield 119, 10, 43, 0), none, none, some (.bipush 6, 0, 0, 6)],
  [none, some (.iload 5, 0, 0, 0), none, some (.imul, 0, 0, 0), some (.iload_n 1, 0, 0, 0), some (.iadd, 0, 0, 0), some (.iaload, 0, 0, 0), some (.istore 6, 0, 0, 0), none, some (.aload_n 0, 0, 0, 0), some (.getfield 104, 10, 38, 0), none, none, some (.iload 5, 0, 0, 0), none, some (.iaload, 0, 0, 0)],
  [some (.iload_n 2, 0, 0, 0), some (.if_icmp .ne 35, 84, 0, 0), none, none, some (.aload_n 0, 0, 0, 0), some (.getfield 107, 10, 39, 0), none, none, some (.iload 5, 0, 0, 0), none, some (.iaload, 0, 0, 0), some (.iload_n 3, 0, 0, 0), some (.if_icmp .lt 24, 84, 0, 0), none, none, some (.iload 6, 0, 0, 0)],
  [none, some (.ifCond .lt 19, 84, 0, 0), none, none, some (.iload 4, 0, 0, 0), none, some (.ifCond .lt 10, 80, 0, 0), none, none, some (.iload 6, 0, 0, 0), none, some (.iload 4, 0, 0, 0), none, some (.if_icmp .ge 7, 84, 0, 0), none, none],
  [some (.iload 6, 0, 0, 0), none, some (.istore 4, 0, 0, 0), none, some (.iinc 5 1, 0, 0, 1), none, none, some (.goto (-69), 18, 0, 0), none, none, some (.iload 4, 0, 0, 0), none, some (.ireturn, 0, 0, 0), none, none, none]])
def xm224 : XM := (yX10_allKnow, cX10_allKnow, 12, (some .int), 2, 50, 0, 0, 10, [[some (.aload_n 0, 0, 0, 0), some (.iload_n 1, 0, 0, 0), some (.invokevirtual 269, 216, 2, 0), none, none, some (.ifCond .eq 22, 27, 0, 0), none, none, some (.iload_n 2, 0, 0, 0), some (.iconst 1, 0, 0, 1), some (.bipush 63, 0, 0, 63), none, some (.invokestatic 146, 160, 3, 0), none, none, some (.ifCond .eq 12, 27, 0, 0)],
  [none, none, some (.iload_n 3, 0, 0, 0), some (.iconst 1, 0, 0, 1), some (.iconst 3, 0, 0, 3), some (.invokestatic 146, 160, 3, 0), none, none, some (.ifCond .ne 5, 29, 0, 0), none, none, some (.iconst (-1), 0, 0, (-1)), some (.ireturn, 0, 0, 0), some (.iconst 0, 0, 0, 0), some (.istore 4, 0, 0, 0), none],
  [some (.iload_n 3, 0, 0, 0), some (.iconst 1, 0, 0, 1), some (.if_icmp .ne 8, 42, 0, 0), none, none, some (.bipush 6, 0, 0, 6), none, some (.goto 16, 55, 0, 0), none, none, some (.iload_n 3, 0, 0, 0), some (.iconst 2, 0, 0, 2), some (.if_icmp .ne 8, 52, 0, 0), none, none, some (.bipush 36, 0, 0, 36)],
  [none, some (.goto 6, 55, 0, 0), none, none, some (.sipush 216, 0, 0, 216), none, none, some (.istore 5, 0, 0, 0), none, some (.iconst 0, 0, 0, 0), some (.istore 6, 0, 0, 0), none, some (.iload 6, 0, 0, 0), none, some (.iload 5, 0, 0, 0), none],
  [some (.if_icmp .ge 146, 210, 0, 0), none, none, some (.iload 6, 0, 0, 0), none, some (.bipush 6, 0, 0, 6), none, some (.irem, 0, 0, 0), some (.istore 7, 0, 0, 0), none, some (.iload_n 3, 0, 0, 0), some (.iconst 2, 0, 0, 2), some (.if_icmp .ge 8, 84, 0, 0), none, none, some (.bipush (-9), 0, 0, (-9))],
  [none, some (.goto 11, 92, 0, 0), none, none, some (.iload 6, 0, 0, 0), none, some (.bipush 6, 0, 0, 6), none, some (.idiv, 0, 0, 0), some (.bipush 6, 0, 0, 6), none, some (.irem, 0, 0, 0), some (.istore 8, 0, 0, 0), none, some (.iload_n 3, 0, 0, 0), some (.iconst 3, 0, 0, 3)],
  [some (.if_icmp .ge 8, 104, 0, 0), none, none, some (.bipush (-9), 0, 0, (-9)), none, some (.goto 8, 109, 0, 0), none, none, some (.iload 6, 0, 0, 0), none, some (.bipush 36, 0, 0, 36), none, some (.idiv, 0, 0, 0), some (.istore 9, 0, 0, 0), none, some (.iload_n 2, 0, 0, 0)],
  [some (.i2l, 0, 0, 0), some (.iload 7, 0, 0, 0), none, some (.invokestatic 150, 192, 2, 0), none, none, some (.ifCond .eq 41, 159, 0, 0), none, none, some (.iload 8, 0, 0, 0), none, some (.bipush (-9), 0, 0, (-9)), none, some (.if_icmp .eq 13, 138, 0, 0), none, none],
  [some (.iload_n 2, 0, 0, 0), some (.i2l, 0, 0, 0), some (.iload 8, 0, 0, 0), none, some (.invokestatic 150, 192, 2, 0), none, none, some (.ifCond .eq 24, 159, 0, 0), none, none, some (.iload 9, 0, 0, 0), none, some (.bipush (-9), 0, 0, (-9)), none, some (.if_icmp .eq 13, 155, 0, 0), none],
  [none, some (.iload_n 2, 0, 0, 0), some (.i2l, 0, 0, 0), some (.iload 9, 0, 0, 0), none, some (.invokestatic 150, 192, 2, 0), none, none, some (.ifCond .eq 7, 159, 0, 0), none, none, some (.iconst 1, 0, 0, 1), some (.goto 4, 160, 0, 0), none, none, some (.iconst 0, 0, 0, 0)],
  [some (.istore 10, 0, 0, 0), none, some (.iload 10, 0, 0, 0), none, some (.ifCond .eq 40, 204, 0, 0), none, none, some (.aload_n 0, 0, 0, 0), some (.iload_n 1, 0, 0, 0), some (.iload 7, 0, 0, 0), none, some (.iload 8, 0, 0, 0), none, some (.iload 9, 0, 0, 0), none, some (.invokevirtual 282, 221, 5, 0)],
  [none, none, some (.istore 11, 0, 0, 0), none, some (.iload 11, 0, 0, 0), none, some (.ifCond .ge 6, 188, 0, 0), none, none, some (.bipush (-9), 0, 0, (-9)), none, some (.ireturn, 0, 0, 0), some (.iload 11, 0, 0, 0), none, some (.iload 4, 0, 0, 0), none],
  [some (.if_icmp .le 8, 200, 0, 0), none, none, some (.iload 11, 0, 0, 0), none, some (.goto 5, 202, 0, 0), none, none, some (.iload 4, 0, 0, 0), none, some (.istore 4, 0, 0, 0), none, some (.iinc 6 1, 0, 0, 1), none, none, some (.goto (-147), 60, 0, 0)],
  [none, none, some (.iload 4, 0, 0, 0), none, some (.ireturn, 0, 0, 0), none, none, none, none, none, none, none, none, none, none, none]])
def xm225 : XM := (yX10_fault, cX10_fault, 3, (some .int), 3, 63, 0, 0, 10, [[some (.aload_n 0, 0, 0, 0), some (.iload_n 1, 0, 0, 0), some (.invokevirtual 175, 172, 2, 0), none, none, some (.istore_n 2, 0, 0, 0), some (.iload_n 2, 0, 0, 0), some (.ifCond .ge 7, 14, 0, 0), none, none, some (.iload_n 2, 0, 0, 0), some (.goto 8, 19, 0, 0), none, none, some (.aload_n 0, 0, 0, 0), some (.iload_n 1, 0, 0, 0)],
  [some (.invokevirtual 289, 226, 2, 0), none, none, some (.ireturn, 0, 0, 0), none, none, none, none, none, none, none, none, none, none, none, none]])
def xm226 : XM := (yX10_reads, cX10_reads, 6, (some .int), 1, 22, 0, 0, 10, [[some (.iconst 0, 0, 0, 0), some (.istore_n 2, 0, 0, 0), some (.iload_n 2, 0, 0, 0), some (.iconst 4, 0, 0, 4), some (.if_icmp .ge 17, 21, 0, 0), none, none, some (.aload_n 0, 0, 0, 0), some (.getfield 125, 10, 45, 0), none, none, some (.iload_n 2, 0, 0, 0), some (.bipush (-9), 0, 0, (-9)), none, some (.iastore, 0, 0, 0), some (.iinc 2 1, 0, 0, 1)],
  [none, none, some (.goto (-16), 2, 0, 0), none, none, some (.iconst 0, 0, 0, 0), some (.istore_n 2, 0, 0, 0), some (.iload_n 2, 0, 0, 0), some (.aload_n 0, 0, 0, 0), some (.getfield 26, 10, 10, 0), none, none, some (.iload_n 1, 0, 0, 0), some (.iaload, 0, 0, 0), some (.if_icmp .ge 151, 181, 0, 0), none],
  [none, some (.aload_n 0, 0, 0, 0), some (.getfield 29, 10, 11, 0), none, none, some (.bipush 40, 0, 0, 40), none, some (.iload_n 1, 0, 0, 0), some (.imul, 0, 0, 0), some (.iload_n 2, 0, 0, 0), some (.iadd, 0, 0, 0), some (.iaload, 0, 0, 0), some (.invokestatic 286, 227, 1, 0), none, none, some (.istore_n 3, 0, 0, 0)],
  [some (.aload_n 0, 0, 0, 0), some (.getfield 29, 10, 11, 0), none, none, some (.bipush 40, 0, 0, 40), none, some (.iload_n 1, 0, 0, 0), some (.imul, 0, 0, 0), some (.iload_n 2, 0, 0, 0), some (.iadd, 0, 0, 0), some (.iaload, 0, 0, 0), some (.bipush 32, 0, 0, 32), none, some (.if_icmp .eq 114, 175, 0, 0), none, none],
  [some (.iload_n 3, 0, 0, 0), some (.ifCond .ge 5, 70, 0, 0), none, none, some (.iload_n 2, 0, 0, 0), some (.ireturn, 0, 0, 0), some (.iconst 0, 0, 0, 0), some (.istore 4, 0, 0, 0), none, some (.iconst 0, 0, 0, 0), some (.istore 5, 0, 0, 0), none, some (.iload_n 2, 0, 0, 0), some (.iconst 1, 0, 0, 1), some (.iadd, 0, 0, 0), some (.aload_n 0, 0, 0, 0)],
  [some (.getfield 26, 10, 10, 0), none, none, some (.iload_n 1, 0, 0, 0), some (.iaload, 0, 0, 0), some (.if_icmp .ge 63, 148, 0, 0), none, none, some (.iload 4, 0, 0, 0), none, some (.iconst 3, 0, 0, 3), some (.if_icmp .ge 57, 148, 0, 0), none, none, some (.aload_n 0, 0, 0, 0), some (.getfield 29, 10, 11, 0)],
  [none, none, some (.bipush 40, 0, 0, 40), none, some (.iload_n 1, 0, 0, 0), some (.imul, 0, 0, 0), some (.iload_n 2, 0, 0, 0), some (.iadd, 0, 0, 0), some (.iconst 1, 0, 0, 1), some (.iadd, 0, 0, 0), some (.iaload, 0, 0, 0), some (.bipush 48, 0, 0, 48), none, some (.bipush 57, 0, 0, 57), none, some (.invokestatic 146, 160, 3, 0)],
  [none, none, some (.ifCond .eq 34, 148, 0, 0), none, none, some (.iinc 2 1, 0, 0, 1), none, none, some (.iinc 4 1, 0, 0, 1), none, none, some (.bipush 10, 0, 0, 10), none, some (.iload 5, 0, 0, 0), none, some (.imul, 0, 0, 0)],
  [some (.aload_n 0, 0, 0, 0), some (.getfield 29, 10, 11, 0), none, none, some (.bipush 40, 0, 0, 40), none, some (.iload_n 1, 0, 0, 0), some (.imul, 0, 0, 0), some (.iload_n 2, 0, 0, 0), some (.iadd, 0, 0, 0), some (.iaload, 0, 0, 0), some (.iadd, 0, 0, 0), some (.bipush 48, 0, 0, 48), none, some (.isub, 0, 0, 0), some (.istore 5, 0, 0, 0)],
  [none, some (.goto (-69), 76, 0, 0), none, none, some (.iload 4, 0, 0, 0), none, some (.ifCond .eq 13, 163, 0, 0), none, none, some (.iload_n 3, 0, 0, 0), some (.iconst 1, 0, 0, 1), some (.if_icmp .le 12, 167, 0, 0), none, none, some (.iload 5, 0, 0, 0), none],
  [some (.ifCond .ne 7, 167, 0, 0), none, none, some (.iload_n 2, 0, 0, 0), some (.iconst 1, 0, 0, 1), some (.iadd, 0, 0, 0), some (.ireturn, 0, 0, 0), some (.aload_n 0, 0, 0, 0), some (.getfield 125, 10, 45, 0), none, none, some (.iload_n 3, 0, 0, 0), some (.iload 5, 0, 0, 0), none, some (.iastore, 0, 0, 0), some (.iinc 2 1, 0, 0, 1)],
  [none, none, some (.goto (-155), 23, 0, 0), none, none, some (.bipush (-9), 0, 0, (-9)), none, some (.ireturn, 0, 0, 0), none, none, none, none, none, none, none, none]])
def xm227 : XM := (yX10_letter, cX10_letter, 1, (some .int), 0, 0, 0, 0, 10, [[some (.iload_n 0, 0, 0, 0), some (.bipush 72, 0, 0, 72), none, some (.if_icmp .ne 7, 10, 0, 0), none, none, some (.iconst 0, 0, 0, 0), some (.goto 35, 42, 0, 0), none, none, some (.iload_n 0, 0, 0, 0), some (.bipush 76, 0, 0, 76), none, some (.if_icmp .ne 7, 20, 0, 0), none, none],
  [some (.iconst 1, 0, 0, 1), some (.goto 25, 42, 0, 0), none, none, some (.iload_n 0, 0, 0, 0), some (.bipush 87, 0, 0, 87), none, some (.if_icmp .ne 7, 30, 0, 0), none, none, some (.iconst 2, 0, 0, 2), some (.goto 15, 42, 0, 0), none, none, some (.iload_n 0, 0, 0, 0), some (.bipush 69, 0, 0, 69)],
  [none, some (.if_icmp .ne 7, 40, 0, 0), none, none, some (.iconst 3, 0, 0, 3), some (.goto 5, 42, 0, 0), none, none, some (.bipush (-9), 0, 0, (-9)), none, some (.ireturn, 0, 0, 0), none, none, none, none, none]])
def xm228 : XM := (yX10_rules, cX10_rules, 5, (some .int), 2, 47, 0, 0, 10, [[some (.iload_n 1, 0, 0, 0), some (.invokestatic 204, 188, 1, 0), none, none, some (.ifCond .eq 10, 14, 0, 0), none, none, some (.iload_n 2, 0, 0, 0), some (.invokestatic 162, 170, 1, 0), none, none, some (.ifCond .ne 5, 16, 0, 0), none, none, some (.iconst (-1), 0, 0, (-1)), some (.ireturn, 0, 0, 0)],
  [some (.aload_n 0, 0, 0, 0), some (.getfield 26, 10, 10, 0), none, none, some (.iload_n 2, 0, 0, 0), some (.iaload, 0, 0, 0), some (.ifCond .ge 9, 31, 0, 0), none, none, some (.aload_n 0, 0, 0, 0), some (.iconst 1, 0, 0, 1), some (.invokevirtual 158, 161, 2, 0), none, none, some (.ireturn, 0, 0, 0), some (.aload_n 0, 0, 0, 0)],
  [some (.iload_n 2, 0, 0, 0), some (.invokevirtual 289, 226, 2, 0), none, none, some (.bipush (-9), 0, 0, (-9)), none, some (.if_icmp .eq 6, 44, 0, 0), none, none, some (.bipush (-4), 0, 0, (-4)), none, some (.ireturn, 0, 0, 0), some (.iconst 0, 0, 0, 0), some (.istore_n 3, 0, 0, 0), some (.iconst 0, 0, 0, 0), some (.istore 4, 0, 0, 0)],
  [none, some (.iload 4, 0, 0, 0), none, some (.iconst 4, 0, 0, 4), some (.if_icmp .ge 45, 97, 0, 0), none, none, some (.aload_n 0, 0, 0, 0), some (.getfield 122, 10, 44, 0), none, none, some (.iconst 4, 0, 0, 4), some (.iload_n 1, 0, 0, 0), some (.imul, 0, 0, 0), some (.iload 4, 0, 0, 0), none],
  [some (.iadd, 0, 0, 0), some (.aload_n 0, 0, 0, 0), some (.getfield 125, 10, 45, 0), none, none, some (.iload 4, 0, 0, 0), none, some (.iaload, 0, 0, 0), some (.iastore, 0, 0, 0), some (.iload_n 3, 0, 0, 0), some (.aload_n 0, 0, 0, 0), some (.getfield 125, 10, 45, 0), none, none, some (.iload 4, 0, 0, 0), none],
  [some (.iaload, 0, 0, 0), some (.ifCond .lt 7, 88, 0, 0), none, none, some (.iconst 1, 0, 0, 1), some (.goto 4, 89, 0, 0), none, none, some (.iconst 0, 0, 0, 0), some (.iadd, 0, 0, 0), some (.istore_n 3, 0, 0, 0), some (.iinc 4 1, 0, 0, 1), none, none, some (.goto (-45), 49, 0, 0), none],
  [none, some (.iload_n 3, 0, 0, 0), some (.ireturn, 0, 0, 0), none, none, none, none, none, none, none, none, none, none, none, none, none]])
def xm229 : XM := (yX10_rule, cX10_rule, 3, (some .int), 2, 42, 0, 0, 10, [[some (.iload_n 1, 0, 0, 0), some (.invokestatic 204, 188, 1, 0), none, none, some (.ifCond .eq 25, 29, 0, 0), none, none, some (.iload_n 2, 0, 0, 0), some (.iconst 0, 0, 0, 0), some (.iconst 3, 0, 0, 3), some (.invokestatic 146, 160, 3, 0), none, none, some (.ifCond .eq 16, 29, 0, 0), none, none],
  [some (.aload_n 0, 0, 0, 0), some (.getfield 122, 10, 44, 0), none, none, some (.iconst 4, 0, 0, 4), some (.iload_n 1, 0, 0, 0), some (.imul, 0, 0, 0), some (.iload_n 2, 0, 0, 0), some (.iadd, 0, 0, 0), some (.iaload, 0, 0, 0), some (.goto 4, 30, 0, 0), none, none, some (.iconst (-1), 0, 0, (-1)), some (.ireturn, 0, 0, 0), none]])
def xm230 : XM := (yX10_asks, cX10_asks, 5, (some .int), 3, 68, 0, 0, 10, [[some (.iload_n 1, 0, 0, 0), some (.invokestatic 204, 188, 1, 0), none, none, some (.ifCond .ne 5, 9, 0, 0), none, none, some (.iconst (-1), 0, 0, (-1)), some (.ireturn, 0, 0, 0), some (.aload_n 0, 0, 0, 0), some (.iload_n 1, 0, 0, 0), some (.invokevirtual 226, 197, 2, 0), none, none, some (.ifCond .ne 6, 20, 0, 0), none],
  [none, some (.bipush (-4), 0, 0, (-4)), none, some (.ireturn, 0, 0, 0), some (.aload_n 0, 0, 0, 0), some (.getfield 122, 10, 44, 0), none, none, some (.iconst 4, 0, 0, 4), some (.iload_n 1, 0, 0, 0), some (.imul, 0, 0, 0), some (.iaload, 0, 0, 0), some (.istore_n 2, 0, 0, 0), some (.aload_n 0, 0, 0, 0), some (.getfield 122, 10, 44, 0), none],
  [none, some (.iconst 4, 0, 0, 4), some (.iload_n 1, 0, 0, 0), some (.imul, 0, 0, 0), some (.iconst 2, 0, 0, 2), some (.iadd, 0, 0, 0), some (.iaload, 0, 0, 0), some (.istore_n 3, 0, 0, 0), some (.aload_n 0, 0, 0, 0), some (.getfield 122, 10, 44, 0), none, none, some (.iconst 4, 0, 0, 4), some (.iload_n 1, 0, 0, 0), some (.imul, 0, 0, 0), some (.iconst 3, 0, 0, 3)],
  [some (.iadd, 0, 0, 0), some (.iaload, 0, 0, 0), some (.istore 4, 0, 0, 0), none, some (.iload_n 2, 0, 0, 0), some (.ifCond .lt 45, 98, 0, 0), none, none, some (.aload_n 0, 0, 0, 0), some (.getfield 61, 10, 22, 0), none, none, some (.iload_n 1, 0, 0, 0), some (.iaload, 0, 0, 0), some (.iload_n 2, 0, 0, 0), some (.iconst 2, 0, 0, 2)],
  [some (.aload_n 0, 0, 0, 0), some (.getfield 64, 10, 23, 0), none, none, some (.iload_n 1, 0, 0, 0), some (.laload, 0, 0, 0), some (.invokestatic 257, 205, 1, 0), none, none, some (.aload_n 0, 0, 0, 0), some (.getfield 178, 10, 17, 0), none, none, some (.invokestatic 260, 206, 2, 0), none, none],
  [some (.imul, 0, 0, 0), some (.iadd, 0, 0, 0), some (.if_icmp .gt 16, 98, 0, 0), none, none, some (.bipush 10, 0, 0, 10), none, some (.aload_n 0, 0, 0, 0), some (.iload_n 1, 0, 0, 0), some (.aload_n 0, 0, 0, 0), some (.getfield 178, 10, 17, 0), none, none, some (.invokevirtual 266, 204, 3, 0), none, none],
  [some (.iadd, 0, 0, 0), some (.ireturn, 0, 0, 0), some (.iload_n 3, 0, 0, 0), some (.ifCond .le 16, 115, 0, 0), none, none, some (.aload_n 0, 0, 0, 0), some (.getfield 207, 10, 6, 0), none, none, some (.iload_n 3, 0, 0, 0), some (.irem, 0, 0, 0), some (.ifCond .ne 7, 115, 0, 0), none, none, some (.iconst 2, 0, 0, 2)],
  [some (.goto 23, 135, 0, 0), none, none, some (.iload 4, 0, 0, 0), none, some (.ifCond .le 17, 134, 0, 0), none, none, some (.aload_n 0, 0, 0, 0), some (.getfield 207, 10, 6, 0), none, none, some (.iload 4, 0, 0, 0), none, some (.irem, 0, 0, 0), some (.ifCond .ne 7, 134, 0, 0)],
  [none, none, some (.iconst 3, 0, 0, 3), some (.goto 4, 135, 0, 0), none, none, some (.iconst 0, 0, 0, 0), some (.ireturn, 0, 0, 0), none, none, none, none, none, none, none, none]])
def xm231 : XM := (yX10_shifts, cX10_shifts, 9, (some .int), 3, 65, 0, 0, 10, [[some (.iload_n 1, 0, 0, 0), some (.invokestatic 154, 159, 1, 0), none, none, some (.ifCond .eq 20, 24, 0, 0), none, none, some (.iload_n 2, 0, 0, 0), some (.invokestatic 154, 159, 1, 0), none, none, some (.ifCond .eq 13, 24, 0, 0), none, none, some (.iload_n 3, 0, 0, 0), some (.iconst 1, 0, 0, 1)],
  [some (.bipush 16, 0, 0, 16), none, some (.invokestatic 146, 160, 3, 0), none, none, some (.ifCond .ne 5, 26, 0, 0), none, none, some (.iconst (-1), 0, 0, (-1)), some (.ireturn, 0, 0, 0), some (.aload_n 0, 0, 0, 0), some (.getfield 17, 10, 7, 0), none, none, some (.iload_n 1, 0, 0, 0), some (.iaload, 0, 0, 0)],
  [some (.ifCond .lt 12, 44, 0, 0), none, none, some (.aload_n 0, 0, 0, 0), some (.getfield 17, 10, 7, 0), none, none, some (.iload_n 2, 0, 0, 0), some (.iaload, 0, 0, 0), some (.ifCond .ge 9, 50, 0, 0), none, none, some (.aload_n 0, 0, 0, 0), some (.iconst 1, 0, 0, 1), some (.invokevirtual 158, 161, 2, 0), none],
  [none, some (.ireturn, 0, 0, 0), some (.aload_n 0, 0, 0, 0), some (.getfield 17, 10, 7, 0), none, none, some (.iload_n 1, 0, 0, 0), some (.iaload, 0, 0, 0), some (.bipush 16, 0, 0, 16), none, some (.if_icmp .ne 14, 72, 0, 0), none, none, some (.aload_n 0, 0, 0, 0), some (.getfield 17, 10, 7, 0), none],
  [none, some (.iload_n 2, 0, 0, 0), some (.iaload, 0, 0, 0), some (.bipush 16, 0, 0, 16), none, some (.if_icmp .eq 9, 78, 0, 0), none, none, some (.aload_n 0, 0, 0, 0), some (.iconst 5, 0, 0, 5), some (.invokevirtual 158, 161, 2, 0), none, none, some (.ireturn, 0, 0, 0), some (.aload_n 0, 0, 0, 0), some (.iload_n 1, 0, 0, 0)],
  [some (.invokevirtual 292, 232, 2, 0), none, none, some (.ifCond .eq 11, 94, 0, 0), none, none, some (.aload_n 0, 0, 0, 0), some (.iload_n 2, 0, 0, 0), some (.invokevirtual 292, 232, 2, 0), none, none, some (.ifCond .ne 9, 100, 0, 0), none, none, some (.aload_n 0, 0, 0, 0), some (.iconst 3, 0, 0, 3)],
  [some (.invokevirtual 158, 161, 2, 0), none, none, some (.ireturn, 0, 0, 0), some (.iconst 0, 0, 0, 0), some (.istore 4, 0, 0, 0), none, some (.iconst 0, 0, 0, 0), some (.istore 5, 0, 0, 0), none, some (.iconst 0, 0, 0, 0), some (.istore 6, 0, 0, 0), none, some (.iload 6, 0, 0, 0), none, some (.bipush 49, 0, 0, 49)],
  [none, some (.if_icmp .ge 68, 181, 0, 0), none, none, some (.iload 6, 0, 0, 0), none, some (.bipush 7, 0, 0, 7), none, some (.irem, 0, 0, 0), some (.iconst 3, 0, 0, 3), some (.isub, 0, 0, 0), some (.istore 7, 0, 0, 0), none, some (.iload 6, 0, 0, 0), none, some (.bipush 7, 0, 0, 7)],
  [none, some (.idiv, 0, 0, 0), some (.iconst 3, 0, 0, 3), some (.isub, 0, 0, 0), some (.istore 8, 0, 0, 0), none, some (.aload_n 0, 0, 0, 0), some (.iload_n 1, 0, 0, 0), some (.iload_n 2, 0, 0, 0), some (.iload 7, 0, 0, 0), none, some (.iload 8, 0, 0, 0), none, some (.invokevirtual 295, 233, 5, 0), none, none],
  [some (.iload_n 3, 0, 0, 0), some (.if_icmp .lt 30, 175, 0, 0), none, none, some (.iload 4, 0, 0, 0), none, some (.ifCond .ne 18, 168, 0, 0), none, none, some (.bipush 10, 0, 0, 10), none, some (.iload 7, 0, 0, 0), none, some (.iconst 3, 0, 0, 3), some (.iadd, 0, 0, 0), some (.imul, 0, 0, 0)],
  [some (.iload 8, 0, 0, 0), none, some (.iadd, 0, 0, 0), some (.iconst 3, 0, 0, 3), some (.iadd, 0, 0, 0), some (.goto 5, 170, 0, 0), none, none, some (.iload 5, 0, 0, 0), none, some (.istore 5, 0, 0, 0), none, some (.iinc 4 1, 0, 0, 1), none, none, some (.iinc 6 1, 0, 0, 1)],
  [none, none, some (.goto (-69), 109, 0, 0), none, none, some (.aload_n 0, 0, 0, 0), some (.iload 5, 0, 0, 0), none, some (.iload 4, 0, 0, 0), none, some (.invokevirtual 172, 168, 3, 0), none, none, some (.ireturn, 0, 0, 0), none, none]])
def xm232 : XM := (yX10_isMap, cX10_isMap, 4, (some .boolean), 2, 42, 0, 0, 10, [[some (.iconst 1, 0, 0, 1), some (.istore_n 2, 0, 0, 0), some (.iconst 0, 0, 0, 0), some (.istore_n 3, 0, 0, 0), some (.iload_n 3, 0, 0, 0), some (.bipush 16, 0, 0, 16), none, some (.if_icmp .ge 42, 49, 0, 0), none, none, some (.iload_n 2, 0, 0, 0), some (.ifCond .eq 30, 41, 0, 0), none, none, some (.aload_n 0, 0, 0, 0), some (.iload_n 1, 0, 0, 0)],
  [some (.iload_n 3, 0, 0, 0), some (.invokevirtual 168, 164, 3, 0), none, none, some (.bipush (-9), 0, 0, (-9)), none, some (.if_icmp .eq 15, 37, 0, 0), none, none, some (.aload_n 0, 0, 0, 0), some (.iload_n 1, 0, 0, 0), some (.iload_n 3, 0, 0, 0), some (.invokevirtual 168, 164, 3, 0), none, none, some (.invokestatic 190, 178, 1, 0)],
  [none, none, some (.ifCond .eq 7, 41, 0, 0), none, none, some (.iconst 1, 0, 0, 1), some (.goto 4, 42, 0, 0), none, none, some (.iconst 0, 0, 0, 0), some (.istore_n 2, 0, 0, 0), some (.iinc 3 1, 0, 0, 1), none, none, some (.goto (-42), 4, 0, 0), none],
  [none, some (.iload_n 2, 0, 0, 0), some (.ireturn, 0, 0, 0), none, none, none, none, none, none, none, none, none, none, none, none, none]])
def xm233 : XM := (yX10_agrees, cX10_agrees, 11, (some .int), 1, 22, 0, 0, 10, [[some (.iconst 0, 0, 0, 0), some (.istore 5, 0, 0, 0), none, some (.iconst 0, 0, 0, 0), some (.istore 6, 0, 0, 0), none, some (.iload 6, 0, 0, 0), none, some (.bipush 16, 0, 0, 16), none, some (.if_icmp .ge 101, 111, 0, 0), none, none, some (.iload 6, 0, 0, 0), none, some (.iconst 4, 0, 0, 4)],
  [some (.irem, 0, 0, 0), some (.iload_n 3, 0, 0, 0), some (.iadd, 0, 0, 0), some (.istore 7, 0, 0, 0), none, some (.iload 6, 0, 0, 0), none, some (.iconst 4, 0, 0, 4), some (.idiv, 0, 0, 0), some (.iload 4, 0, 0, 0), none, some (.iadd, 0, 0, 0), some (.istore 8, 0, 0, 0), none, some (.aload_n 0, 0, 0, 0), some (.iload_n 1, 0, 0, 0)],
  [some (.iload 6, 0, 0, 0), none, some (.invokevirtual 168, 164, 3, 0), none, none, some (.istore 9, 0, 0, 0), none, some (.iload 7, 0, 0, 0), none, some (.iconst 0, 0, 0, 0), some (.iconst 3, 0, 0, 3), some (.invokestatic 146, 160, 3, 0), none, none, some (.ifCond .eq 28, 74, 0, 0), none],
  [none, some (.iload 8, 0, 0, 0), none, some (.iconst 0, 0, 0, 0), some (.iconst 3, 0, 0, 3), some (.invokestatic 146, 160, 3, 0), none, none, some (.ifCond .eq 18, 74, 0, 0), none, none, some (.aload_n 0, 0, 0, 0), some (.iload_n 2, 0, 0, 0), some (.iconst 4, 0, 0, 4), some (.iload 8, 0, 0, 0), none],
  [some (.imul, 0, 0, 0), some (.iload 7, 0, 0, 0), none, some (.iadd, 0, 0, 0), some (.invokevirtual 168, 164, 3, 0), none, none, some (.goto 5, 76, 0, 0), none, none, some (.bipush (-9), 0, 0, (-9)), none, some (.istore 10, 0, 0, 0), none, some (.iload 9, 0, 0, 0), none],
  [some (.bipush (-9), 0, 0, (-9)), none, some (.if_icmp .eq 23, 105, 0, 0), none, none, some (.iload 10, 0, 0, 0), none, some (.bipush (-9), 0, 0, (-9)), none, some (.if_icmp .eq 16, 105, 0, 0), none, none, some (.iload 9, 0, 0, 0), none, some (.iload 10, 0, 0, 0), none],
  [some (.if_icmp .eq 6, 102, 0, 0), none, none, some (.bipush (-9), 0, 0, (-9)), none, some (.ireturn, 0, 0, 0), some (.iinc 5 1, 0, 0, 1), none, none, some (.iinc 6 1, 0, 0, 1), none, none, some (.goto (-102), 6, 0, 0), none, none, some (.iload 5, 0, 0, 0)],
  [none, some (.ireturn, 0, 0, 0), none, none, none, none, none, none, none, none, none, none, none, none, none, none]])
def xm234 : XM := (yX10_mapped, cX10_mapped, 3, (some .int), 2, 45, 0, 0, 10, [[some (.iload_n 1, 0, 0, 0), some (.iconst 0, 0, 0, 0), some (.bipush 63, 0, 0, 63), none, some (.invokestatic 146, 160, 3, 0), none, none, some (.ifCond .ne 5, 12, 0, 0), none, none, some (.iconst (-1), 0, 0, (-1)), some (.ireturn, 0, 0, 0), some (.aload_n 0, 0, 0, 0), some (.lconst 0, 0, 0, 0), some (.putfield 223, 10, 3, 0), none],
  [none, some (.iconst 0, 0, 0, 0), some (.istore_n 2, 0, 0, 0), some (.iload_n 2, 0, 0, 0), some (.aload_n 0, 0, 0, 0), some (.getfield 210, 10, 30, 0), none, none, some (.if_icmp .ge 41, 65, 0, 0), none, none, some (.aload_n 0, 0, 0, 0), some (.dup, 0, 0, 0), some (.getfield 223, 10, 3, 0), none, none],
  [some (.aload_n 0, 0, 0, 0), some (.getfield 92, 10, 33, 0), none, none, some (.iload_n 2, 0, 0, 0), some (.iaload, 0, 0, 0), some (.iload_n 1, 0, 0, 0), some (.iand, 0, 0, 0), some (.ifCond .eq 14, 54, 0, 0), none, none, some (.lconst 1, 0, 0, 1), some (.aload_n 0, 0, 0, 0), some (.getfield 86, 10, 31, 0), none, none],
  [some (.iload_n 2, 0, 0, 0), some (.iaload, 0, 0, 0), some (.lshl, 0, 0, 0), some (.goto 4, 55, 0, 0), none, none, some (.lconst 0, 0, 0, 0), some (.lor, 0, 0, 0), some (.putfield 223, 10, 3, 0), none, none, some (.iinc 2 1, 0, 0, 1), none, none, some (.goto (-43), 19, 0, 0), none],
  [none, some (.aload_n 0, 0, 0, 0), some (.getfield 223, 10, 3, 0), none, none, some (.invokestatic 213, 191, 1, 0), none, none, some (.ireturn, 0, 0, 0), none, none, none, none, none, none, none]])
def xm235 : XM := (yX10_plan, cX10_plan, 12, (some .int), 3, 66, 0, 0, 10, [[some (.iload_n 1, 0, 0, 0), some (.iconst 1, 0, 0, 1), some (.bipush 63, 0, 0, 63), none, some (.invokestatic 146, 160, 3, 0), none, none, some (.ifCond .eq 13, 20, 0, 0), none, none, some (.iload_n 2, 0, 0, 0), some (.iconst 0, 0, 0, 0), some (.bipush 63, 0, 0, 63), none, some (.invokestatic 146, 160, 3, 0), none],
  [none, some (.ifCond .ne 5, 22, 0, 0), none, none, some (.iconst (-1), 0, 0, (-1)), some (.ireturn, 0, 0, 0), some (.iload_n 1, 0, 0, 0), some (.i2l, 0, 0, 0), some (.invokestatic 213, 191, 1, 0), none, none, some (.iconst 3, 0, 0, 3), some (.if_icmp .le 6, 34, 0, 0), none, none, some (.bipush (-6), 0, 0, (-6))],
  [none, some (.ireturn, 0, 0, 0), some (.iconst 0, 0, 0, 0), some (.istore_n 3, 0, 0, 0), some (.iload_n 3, 0, 0, 0), some (.bipush 6, 0, 0, 6), none, some (.if_icmp .ge 33, 72, 0, 0), none, none, some (.iload_n 2, 0, 0, 0), some (.i2l, 0, 0, 0), some (.iload_n 3, 0, 0, 0), some (.invokestatic 150, 192, 2, 0), none, none],
  [some (.ifCond .eq 18, 66, 0, 0), none, none, some (.aload_n 0, 0, 0, 0), some (.getfield 17, 10, 7, 0), none, none, some (.iload_n 3, 0, 0, 0), some (.iaload, 0, 0, 0), some (.ifCond .ge 9, 66, 0, 0), none, none, some (.aload_n 0, 0, 0, 0), some (.iconst 1, 0, 0, 1), some (.invokevirtual 158, 161, 2, 0), none],
  [none, some (.ireturn, 0, 0, 0), some (.iinc 3 1, 0, 0, 1), none, none, some (.goto (-33), 36, 0, 0), none, none, some (.iconst 0, 0, 0, 0), some (.istore_n 3, 0, 0, 0), some (.iload_n 3, 0, 0, 0), some (.bipush 6, 0, 0, 6), none, some (.if_icmp .ge 39, 116, 0, 0), none, none],
  [some (.iload_n 2, 0, 0, 0), some (.i2l, 0, 0, 0), some (.iload_n 3, 0, 0, 0), some (.invokestatic 150, 192, 2, 0), none, none, some (.ifCond .eq 24, 110, 0, 0), none, none, some (.aload_n 0, 0, 0, 0), some (.getfield 17, 10, 7, 0), none, none, some (.iload_n 3, 0, 0, 0), some (.iaload, 0, 0, 0), some (.iconst 1, 0, 0, 1)],
  [some (.bipush 12, 0, 0, 12), none, some (.invokestatic 146, 160, 3, 0), none, none, some (.ifCond .ne 9, 110, 0, 0), none, none, some (.aload_n 0, 0, 0, 0), some (.iconst 5, 0, 0, 5), some (.invokevirtual 158, 161, 2, 0), none, none, some (.ireturn, 0, 0, 0), some (.iinc 3 1, 0, 0, 1), none],
  [none, some (.goto (-39), 74, 0, 0), none, none, some (.iconst 0, 0, 0, 0), some (.istore_n 3, 0, 0, 0), some (.iload_n 3, 0, 0, 0), some (.bipush 6, 0, 0, 6), none, some (.if_icmp .ge 38, 159, 0, 0), none, none, some (.iload_n 2, 0, 0, 0), some (.i2l, 0, 0, 0), some (.iload_n 3, 0, 0, 0), some (.invokestatic 150, 192, 2, 0)],
  [none, none, some (.ifCond .eq 23, 153, 0, 0), none, none, some (.aload_n 0, 0, 0, 0), some (.iload_n 3, 0, 0, 0), some (.aload_n 0, 0, 0, 0), some (.getfield 17, 10, 7, 0), none, none, some (.iload_n 3, 0, 0, 0), some (.iaload, 0, 0, 0), some (.invokevirtual 298, 236, 3, 0), none, none],
  [some (.ifCond .ne 9, 153, 0, 0), none, none, some (.aload_n 0, 0, 0, 0), some (.iconst 3, 0, 0, 3), some (.invokevirtual 158, 161, 2, 0), none, none, some (.ireturn, 0, 0, 0), some (.iinc 3 1, 0, 0, 1), none, none, some (.goto (-38), 118, 0, 0), none, none, some (.iconst 0, 0, 0, 0)],
  [some (.istore_n 3, 0, 0, 0), some (.iconst 0, 0, 0, 0), some (.istore 4, 0, 0, 0), none, some (.iload 4, 0, 0, 0), none, some (.bipush 6, 0, 0, 6), none, some (.if_icmp .ge 84, 252, 0, 0), none, none, some (.iload_n 1, 0, 0, 0), some (.i2l, 0, 0, 0), some (.iload 4, 0, 0, 0), none, some (.invokestatic 150, 192, 2, 0)],
  [none, none, some (.ifCond .eq 68, 246, 0, 0), none, none, some (.iconst 0, 0, 0, 0), some (.istore 5, 0, 0, 0), none, some (.iload 5, 0, 0, 0), none, some (.bipush 6, 0, 0, 6), none, some (.if_icmp .ge 45, 233, 0, 0), none, none, some (.aload_n 0, 0, 0, 0)],
  [some (.getfield 131, 10, 47, 0), none, none, some (.bipush 7, 0, 0, 7), none, some (.iload_n 3, 0, 0, 0), some (.imul, 0, 0, 0), some (.iload 5, 0, 0, 0), none, some (.iadd, 0, 0, 0), some (.iconst 1, 0, 0, 1), some (.iadd, 0, 0, 0), some (.iload_n 2, 0, 0, 0), some (.i2l, 0, 0, 0), some (.iload 5, 0, 0, 0), none],
  [some (.invokestatic 150, 192, 2, 0), none, none, some (.ifCond .eq 14, 225, 0, 0), none, none, some (.aload_n 0, 0, 0, 0), some (.iload 4, 0, 0, 0), none, some (.iload 5, 0, 0, 0), none, some (.invokevirtual 301, 237, 3, 0), none, none, some (.goto 4, 226, 0, 0), none],
  [none, some (.lconst 0, 0, 0, 0), some (.lastore, 0, 0, 0), some (.iinc 5 1, 0, 0, 1), none, none, some (.goto (-46), 184, 0, 0), none, none, some (.aload_n 0, 0, 0, 0), some (.getfield 131, 10, 47, 0), none, none, some (.bipush 7, 0, 0, 7), none, some (.iload_n 3, 0, 0, 0)],
  [some (.imul, 0, 0, 0), some (.lconst 0, 0, 0, 0), some (.lastore, 0, 0, 0), some (.iinc 3 1, 0, 0, 1), none, none, some (.iinc 4 1, 0, 0, 1), none, none, some (.goto (-85), 164, 0, 0), none, none, some (.bipush (-9), 0, 0, (-9)), none, some (.istore 4, 0, 0, 0), none],
  [some (.iconst 0, 0, 0, 0), some (.istore 5, 0, 0, 0), none, some (.iconst 0, 0, 0, 0), some (.istore 6, 0, 0, 0), none, some (.iload 6, 0, 0, 0), none, some (.sipush 343, 0, 0, 343), none, none, some (.if_icmp .ge 196, 463, 0, 0), none, none, some (.iload 6, 0, 0, 0), none],
  [some (.bipush 49, 0, 0, 49), none, some (.idiv, 0, 0, 0), some (.istore 7, 0, 0, 0), none, some (.iload 6, 0, 0, 0), none, some (.bipush 7, 0, 0, 7), none, some (.idiv, 0, 0, 0), some (.bipush 7, 0, 0, 7), none, some (.irem, 0, 0, 0), some (.istore 8, 0, 0, 0), none, some (.iload 6, 0, 0, 0)],
  [none, some (.bipush 7, 0, 0, 7), none, some (.irem, 0, 0, 0), some (.istore 9, 0, 0, 0), none, some (.iload 7, 0, 0, 0), none, some (.ifCond .eq 15, 311, 0, 0), none, none, some (.aload_n 0, 0, 0, 0), some (.getfield 131, 10, 47, 0), none, none, some (.iload 7, 0, 0, 0)],
  [none, some (.laload, 0, 0, 0), some (.lconst 0, 0, 0, 0), some (.lcmp, 0, 0, 0), some (.ifCond .eq 57, 365, 0, 0), none, none, some (.iload 8, 0, 0, 0), none, some (.ifCond .eq 23, 336, 0, 0), none, none, some (.iload_n 3, 0, 0, 0), some (.iconst 1, 0, 0, 1), some (.if_icmp .le 47, 365, 0, 0), none],
  [none, some (.aload_n 0, 0, 0, 0), some (.getfield 131, 10, 47, 0), none, none, some (.bipush 7, 0, 0, 7), none, some (.iload 8, 0, 0, 0), none, some (.iadd, 0, 0, 0), some (.laload, 0, 0, 0), some (.lconst 0, 0, 0, 0), some (.lcmp, 0, 0, 0), some (.ifCond .eq 32, 365, 0, 0), none, none],
  [some (.iload 9, 0, 0, 0), none, some (.ifCond .eq 23, 361, 0, 0), none, none, some (.iload_n 3, 0, 0, 0), some (.iconst 2, 0, 0, 2), some (.if_icmp .le 22, 365, 0, 0), none, none, some (.aload_n 0, 0, 0, 0), some (.getfield 131, 10, 47, 0), none, none, some (.bipush 14, 0, 0, 14), none],
  [some (.iload 9, 0, 0, 0), none, some (.iadd, 0, 0, 0), some (.laload, 0, 0, 0), some (.lconst 0, 0, 0, 0), some (.lcmp, 0, 0, 0), some (.ifCond .eq 7, 365, 0, 0), none, none, some (.iconst 1, 0, 0, 1), some (.goto 4, 366, 0, 0), none, none, some (.iconst 0, 0, 0, 0), some (.istore 10, 0, 0, 0), none],
  [some (.iload 10, 0, 0, 0), none, some (.ifCond .ne 8, 378, 0, 0), none, none, some (.bipush (-9), 0, 0, (-9)), none, some (.goto 53, 428, 0, 0), none, none, some (.aload_n 0, 0, 0, 0), some (.getfield 131, 10, 47, 0), none, none, some (.iload 7, 0, 0, 0), none],
  [some (.laload, 0, 0, 0), some (.iload_n 3, 0, 0, 0), some (.iconst 1, 0, 0, 1), some (.if_icmp .le 16, 403, 0, 0), none, none, some (.aload_n 0, 0, 0, 0), some (.getfield 131, 10, 47, 0), none, none, some (.bipush 7, 0, 0, 7), none, some (.iload 8, 0, 0, 0), none, some (.iadd, 0, 0, 0), some (.laload, 0, 0, 0)],
  [some (.goto 4, 404, 0, 0), none, none, some (.lconst 0, 0, 0, 0), some (.lor, 0, 0, 0), some (.iload_n 3, 0, 0, 0), some (.iconst 2, 0, 0, 2), some (.if_icmp .le 16, 423, 0, 0), none, none, some (.aload_n 0, 0, 0, 0), some (.getfield 131, 10, 47, 0), none, none, some (.bipush 14, 0, 0, 14), none],
  [some (.iload 9, 0, 0, 0), none, some (.iadd, 0, 0, 0), some (.laload, 0, 0, 0), some (.goto 4, 424, 0, 0), none, none, some (.lconst 0, 0, 0, 0), some (.lor, 0, 0, 0), some (.invokestatic 213, 191, 1, 0), none, none, some (.istore 11, 0, 0, 0), none, some (.iload 11, 0, 0, 0), none],
  [some (.iload 4, 0, 0, 0), none, some (.if_icmp .le 23, 457, 0, 0), none, none, some (.iload 11, 0, 0, 0), none, some (.istore 4, 0, 0, 0), none, some (.iload 7, 0, 0, 0), none, some (.bipush 10, 0, 0, 10), none, some (.iload 8, 0, 0, 0), none, some (.imul, 0, 0, 0)],
  [some (.iadd, 0, 0, 0), some (.bipush 100, 0, 0, 100), none, some (.iload 9, 0, 0, 0), none, some (.imul, 0, 0, 0), some (.iadd, 0, 0, 0), some (.istore 5, 0, 0, 0), none, some (.iinc 6 1, 0, 0, 1), none, none, some (.goto (-198), 262, 0, 0), none, none, some (.aload_n 0, 0, 0, 0)],
  [some (.iload 5, 0, 0, 0), none, some (.iload 4, 0, 0, 0), none, some (.invokevirtual 172, 168, 3, 0), none, none, some (.ireturn, 0, 0, 0), none, none, none, none, none, none, none, none]])
def xm236 : XM := (yX10_areWays, cX10_areWays, 5, (some .boolean), 2, 42, 0, 0, 10, [[some (.iconst 1, 0, 0, 1), some (.istore_n 3, 0, 0, 0), some (.iconst 0, 0, 0, 0), some (.istore 4, 0, 0, 0), none, some (.iload 4, 0, 0, 0), none, some (.iload_n 2, 0, 0, 0), some (.if_icmp .ge 32, 40, 0, 0), none, none, some (.iload_n 3, 0, 0, 0), some (.ifCond .eq 20, 32, 0, 0), none, none, some (.aload_n 0, 0, 0, 0)],
  [some (.iload_n 1, 0, 0, 0), some (.iload 4, 0, 0, 0), none, some (.invokevirtual 168, 164, 3, 0), none, none, some (.invokestatic 187, 177, 1, 0), none, none, some (.ifCond .eq 7, 32, 0, 0), none, none, some (.iconst 1, 0, 0, 1), some (.goto 4, 33, 0, 0), none, none],
  [some (.iconst 0, 0, 0, 0), some (.istore_n 3, 0, 0, 0), some (.iinc 4 1, 0, 0, 1), none, none, some (.goto (-32), 5, 0, 0), none, none, some (.iload_n 3, 0, 0, 0), some (.ireturn, 0, 0, 0), none, none, none, none, none, none]])
def xm237 : XM := (yX10_comesBy, cX10_comesBy, 8, (some .long), 1, 23, 0, 0, 10, [[some (.aload_n 0, 0, 0, 0), some (.getfield 58, 10, 21, 0), none, none, some (.iload_n 1, 0, 0, 0), some (.iaload, 0, 0, 0), some (.istore_n 3, 0, 0, 0), some (.iconst 0, 0, 0, 0), some (.istore 4, 0, 0, 0), none, some (.lconst 1, 0, 0, 1), some (.iload_n 3, 0, 0, 0), some (.lshl, 0, 0, 0), some (.lstore 5, 0, 0, 0), none, some (.iconst 0, 0, 0, 0)],
  [some (.istore 7, 0, 0, 0), none, some (.iload 7, 0, 0, 0), none, some (.aload_n 0, 0, 0, 0), some (.getfield 17, 10, 7, 0), none, none, some (.iload_n 2, 0, 0, 0), some (.iaload, 0, 0, 0), some (.if_icmp .ge 50, 76, 0, 0), none, none, some (.iload 4, 0, 0, 0), none, some (.aload_n 0, 0, 0, 0)],
  [some (.iload_n 2, 0, 0, 0), some (.iload 7, 0, 0, 0), none, some (.invokevirtual 168, 164, 3, 0), none, none, some (.ifCond .ne 7, 45, 0, 0), none, none, some (.iconst 0, 0, 0, 0), some (.goto 4, 46, 0, 0), none, none, some (.iconst 2, 0, 0, 2), some (.iadd, 0, 0, 0), some (.istore 4, 0, 0, 0)],
  [none, some (.aload_n 0, 0, 0, 0), some (.iload_n 3, 0, 0, 0), some (.aload_n 0, 0, 0, 0), some (.iload_n 2, 0, 0, 0), some (.iload 7, 0, 0, 0), none, some (.invokevirtual 168, 164, 3, 0), none, none, some (.invokevirtual 197, 186, 3, 0), none, none, some (.istore_n 3, 0, 0, 0), some (.lload 5, 0, 0, 0), none],
  [some (.lconst 1, 0, 0, 1), some (.iload_n 3, 0, 0, 0), some (.lshl, 0, 0, 0), some (.lor, 0, 0, 0), some (.lstore 5, 0, 0, 0), none, some (.iinc 7 1, 0, 0, 1), none, none, some (.goto (-55), 18, 0, 0), none, none, some (.iload 4, 0, 0, 0), none, some (.aload_n 0, 0, 0, 0), some (.getfield 61, 10, 22, 0)],
  [none, none, some (.iload_n 1, 0, 0, 0), some (.iaload, 0, 0, 0), some (.if_icmp .gt 8, 92, 0, 0), none, none, some (.lload 5, 0, 0, 0), none, some (.goto 4, 93, 0, 0), none, none, some (.lconst 0, 0, 0, 0), some (.lreturn, 0, 0, 0), none, none]])
def xm238 : XM := (yX10_odds, cX10_odds, 9, (some .int), 4, 89, 0, 0, 10, [[some (.aload_n 0, 0, 0, 0), some (.iload_n 1, 0, 0, 0), some (.iload_n 2, 0, 0, 0), some (.bipush 8, 0, 0, 8), none, some (.invokevirtual 308, 239, 4, 0), none, none, some (.istore_n 3, 0, 0, 0), some (.iload_n 3, 0, 0, 0), some (.ifCond .ge 5, 15, 0, 0), none, none, some (.iload_n 3, 0, 0, 0), some (.ireturn, 0, 0, 0), some (.iconst 0, 0, 0, 0)],
  [some (.istore 4, 0, 0, 0), none, some (.iload 4, 0, 0, 0), none, some (.bipush 64, 0, 0, 64), none, some (.if_icmp .ge 27, 49, 0, 0), none, none, some (.aload_n 0, 0, 0, 0), some (.getfield 134, 10, 48, 0), none, none, some (.iload 4, 0, 0, 0), none, some (.iload 4, 0, 0, 0)],
  [none, some (.iload_n 1, 0, 0, 0), some (.if_icmp .ne 7, 41, 0, 0), none, none, some (.lconst 1, 0, 0, 1), some (.goto 4, 42, 0, 0), none, none, some (.lconst 0, 0, 0, 0), some (.lastore, 0, 0, 0), some (.iinc 4 1, 0, 0, 1), none, none, some (.goto (-28), 18, 0, 0), none],
  [none, some (.lconst 1, 0, 0, 1), some (.lstore 4, 0, 0, 0), none, some (.iconst 0, 0, 0, 0), some (.istore 6, 0, 0, 0), none, some (.iload 6, 0, 0, 0), none, some (.aload_n 0, 0, 0, 0), some (.getfield 17, 10, 7, 0), none, none, some (.iload_n 2, 0, 0, 0), some (.iaload, 0, 0, 0), some (.if_icmp .ge 151, 214, 0, 0)],
  [none, none, some (.lload 4, 0, 0, 0), none, some (.ldc2_w 311, 0, 0, 4), none, none, some (.lmul, 0, 0, 0), some (.lstore 4, 0, 0, 0), none, some (.iconst 0, 0, 0, 0), some (.istore 7, 0, 0, 0), none, some (.iload 7, 0, 0, 0), none, some (.bipush 64, 0, 0, 64)],
  [none, some (.if_icmp .ge 17, 98, 0, 0), none, none, some (.aload_n 0, 0, 0, 0), some (.getfield 137, 10, 49, 0), none, none, some (.iload 7, 0, 0, 0), none, some (.lconst 0, 0, 0, 0), some (.lastore, 0, 0, 0), some (.iinc 7 1, 0, 0, 1), none, none, some (.goto (-18), 77, 0, 0)],
  [none, none, some (.iconst 0, 0, 0, 0), some (.istore 7, 0, 0, 0), none, some (.iload 7, 0, 0, 0), none, some (.bipush 64, 0, 0, 64), none, some (.if_icmp .ge 73, 178, 0, 0), none, none, some (.aload_n 0, 0, 0, 0), some (.iload 7, 0, 0, 0), none, some (.aload_n 0, 0, 0, 0)],
  [some (.iload_n 2, 0, 0, 0), some (.iload 6, 0, 0, 0), none, some (.invokevirtual 168, 164, 3, 0), none, none, some (.invokevirtual 197, 186, 3, 0), none, none, some (.istore 8, 0, 0, 0), none, some (.aload_n 0, 0, 0, 0), some (.getfield 137, 10, 49, 0), none, none, some (.iload 8, 0, 0, 0)],
  [none, some (.dup2, 0, 0, 0), some (.laload, 0, 0, 0), some (.aload_n 0, 0, 0, 0), some (.getfield 134, 10, 48, 0), none, none, some (.iload 7, 0, 0, 0), none, some (.laload, 0, 0, 0), some (.ladd, 0, 0, 0), some (.lastore, 0, 0, 0), some (.aload_n 0, 0, 0, 0), some (.getfield 137, 10, 49, 0), none, none],
  [some (.aload_n 0, 0, 0, 0), some (.iload 8, 0, 0, 0), none, some (.aload_n 0, 0, 0, 0), some (.getfield 36, 10, 13, 0), none, none, some (.iload 8, 0, 0, 0), none, some (.iaload, 0, 0, 0), some (.invokevirtual 197, 186, 3, 0), none, none, some (.dup2, 0, 0, 0), some (.laload, 0, 0, 0), some (.ldc2_w 313, 0, 0, 3)],
  [none, none, some (.aload_n 0, 0, 0, 0), some (.getfield 134, 10, 48, 0), none, none, some (.iload 7, 0, 0, 0), none, some (.laload, 0, 0, 0), some (.lmul, 0, 0, 0), some (.ladd, 0, 0, 0), some (.lastore, 0, 0, 0), some (.iinc 7 1, 0, 0, 1), none, none, some (.goto (-74), 101, 0, 0)],
  [none, none, some (.iconst 0, 0, 0, 0), some (.istore 7, 0, 0, 0), none, some (.iload 7, 0, 0, 0), none, some (.bipush 64, 0, 0, 64), none, some (.if_icmp .ge 23, 208, 0, 0), none, none, some (.aload_n 0, 0, 0, 0), some (.getfield 134, 10, 48, 0), none, none],
  [some (.iload 7, 0, 0, 0), none, some (.aload_n 0, 0, 0, 0), some (.getfield 137, 10, 49, 0), none, none, some (.iload 7, 0, 0, 0), none, some (.laload, 0, 0, 0), some (.lastore, 0, 0, 0), some (.iinc 7 1, 0, 0, 1), none, none, some (.goto (-24), 181, 0, 0), none, none],
  [some (.iinc 6 1, 0, 0, 1), none, none, some (.goto (-156), 55, 0, 0), none, none, some (.aload_n 0, 0, 0, 0), some (.aload_n 0, 0, 0, 0), some (.getfield 134, 10, 48, 0), none, none, some (.aload_n 0, 0, 0, 0), some (.getfield 178, 10, 17, 0), none, none, some (.laload, 0, 0, 0)],
  [some (.lload 4, 0, 0, 0), none, some (.invokevirtual 315, 240, 3, 0), none, none, some (.ireturn, 0, 0, 0), none, none, none, none, none, none, none, none, none, none]])
def xm239 : XM := (yX10_askedWays, cX10_askedWays, 4, (some .int), 3, 66, 0, 0, 10, [[some (.iload_n 1, 0, 0, 0), some (.invokestatic 181, 174, 1, 0), none, none, some (.ifCond .eq 19, 23, 0, 0), none, none, some (.aload_n 0, 0, 0, 0), some (.getfield 32, 10, 12, 0), none, none, some (.iload_n 1, 0, 0, 0), some (.baload, 0, 0, 0), some (.ifCond .ne 10, 23, 0, 0), none, none],
  [some (.iload_n 2, 0, 0, 0), some (.invokestatic 154, 159, 1, 0), none, none, some (.ifCond .ne 5, 25, 0, 0), none, none, some (.iconst (-1), 0, 0, (-1)), some (.ireturn, 0, 0, 0), some (.aload_n 0, 0, 0, 0), some (.getfield 17, 10, 7, 0), none, none, some (.iload_n 2, 0, 0, 0), some (.iaload, 0, 0, 0), some (.ifCond .ge 9, 40, 0, 0)],
  [none, none, some (.aload_n 0, 0, 0, 0), some (.iconst 1, 0, 0, 1), some (.invokevirtual 158, 161, 2, 0), none, none, some (.ireturn, 0, 0, 0), some (.aload_n 0, 0, 0, 0), some (.getfield 17, 10, 7, 0), none, none, some (.iload_n 2, 0, 0, 0), some (.iaload, 0, 0, 0), some (.iconst 1, 0, 0, 1), some (.iload_n 3, 0, 0, 0)],
  [some (.invokestatic 146, 160, 3, 0), none, none, some (.ifCond .ne 9, 60, 0, 0), none, none, some (.aload_n 0, 0, 0, 0), some (.iconst 5, 0, 0, 5), some (.invokevirtual 158, 161, 2, 0), none, none, some (.ireturn, 0, 0, 0), some (.aload_n 0, 0, 0, 0), some (.iload_n 2, 0, 0, 0), some (.aload_n 0, 0, 0, 0), some (.getfield 17, 10, 7, 0)],
  [none, none, some (.iload_n 2, 0, 0, 0), some (.iaload, 0, 0, 0), some (.invokevirtual 298, 236, 3, 0), none, none, some (.ifCond .eq 7, 78, 0, 0), none, none, some (.iconst 0, 0, 0, 0), some (.goto 8, 83, 0, 0), none, none, some (.aload_n 0, 0, 0, 0), some (.iconst 3, 0, 0, 3)],
  [some (.invokevirtual 158, 161, 2, 0), none, none, some (.ireturn, 0, 0, 0), none, none, none, none, none, none, none, none, none, none, none, none]])
def xm240 : XM := (yX10_share, cX10_share, 11, (some .int), 0, 0, 0, 0, 10, [[some (.lload_n 1, 0, 0, 0), some (.lstore 5, 0, 0, 0), none, some (.lload_n 3, 0, 0, 0), some (.lstore 7, 0, 0, 0), none, some (.lload 7, 0, 0, 0), none, some (.lconst 0, 0, 0, 0), some (.lcmp, 0, 0, 0), some (.ifCond .eq 21, 31, 0, 0), none, none, some (.lload 5, 0, 0, 0), none, some (.lload 7, 0, 0, 0)],
  [none, some (.lrem, 0, 0, 0), some (.lstore 9, 0, 0, 0), none, some (.lload 7, 0, 0, 0), none, some (.lstore 5, 0, 0, 0), none, some (.lload 9, 0, 0, 0), none, some (.lstore 7, 0, 0, 0), none, some (.goto (-22), 6, 0, 0), none, none, some (.aload_n 0, 0, 0, 0)],
  [some (.lload_n 1, 0, 0, 0), some (.lload 5, 0, 0, 0), none, some (.ldiv, 0, 0, 0), some (.putfield 305, 10, 4, 0), none, none, some (.aload_n 0, 0, 0, 0), some (.lload_n 3, 0, 0, 0), some (.lload 5, 0, 0, 0), none, some (.ldiv, 0, 0, 0), some (.putfield 13, 10, 5, 0), none, none, some (.iconst 1, 0, 0, 1)],
  [some (.ireturn, 0, 0, 0), none, none, none, none, none, none, none, none, none, none, none, none, none, none, none]])
def xm241 : XM := (yX10_courses, cX10_courses, 9, (some .int), 3, 66, 0, 0, 10, [[some (.iload_n 1, 0, 0, 0), some (.invokestatic 181, 174, 1, 0), none, none, some (.ifCond .eq 26, 30, 0, 0), none, none, some (.aload_n 0, 0, 0, 0), some (.getfield 32, 10, 12, 0), none, none, some (.iload_n 1, 0, 0, 0), some (.baload, 0, 0, 0), some (.ifCond .ne 17, 30, 0, 0), none, none],
  [some (.iload_n 2, 0, 0, 0), some (.invokestatic 154, 159, 1, 0), none, none, some (.ifCond .eq 10, 30, 0, 0), none, none, some (.iload_n 3, 0, 0, 0), some (.invokestatic 154, 159, 1, 0), none, none, some (.ifCond .ne 5, 32, 0, 0), none, none, some (.iconst (-1), 0, 0, (-1)), some (.ireturn, 0, 0, 0)],
  [some (.aload_n 0, 0, 0, 0), some (.getfield 17, 10, 7, 0), none, none, some (.iload_n 2, 0, 0, 0), some (.iaload, 0, 0, 0), some (.ifCond .lt 12, 50, 0, 0), none, none, some (.aload_n 0, 0, 0, 0), some (.getfield 17, 10, 7, 0), none, none, some (.iload_n 3, 0, 0, 0), some (.iaload, 0, 0, 0), some (.ifCond .ge 9, 56, 0, 0)],
  [none, none, some (.aload_n 0, 0, 0, 0), some (.iconst 1, 0, 0, 1), some (.invokevirtual 158, 161, 2, 0), none, none, some (.ireturn, 0, 0, 0), some (.aload_n 0, 0, 0, 0), some (.getfield 17, 10, 7, 0), none, none, some (.iload_n 2, 0, 0, 0), some (.iaload, 0, 0, 0), some (.istore 4, 0, 0, 0), none],
  [some (.iload 4, 0, 0, 0), none, some (.iconst 1, 0, 0, 1), some (.bipush 10, 0, 0, 10), none, some (.invokestatic 146, 160, 3, 0), none, none, some (.ifCond .eq 14, 86, 0, 0), none, none, some (.aload_n 0, 0, 0, 0), some (.getfield 17, 10, 7, 0), none, none, some (.iload_n 3, 0, 0, 0)],
  [some (.iaload, 0, 0, 0), some (.iconst 2, 0, 0, 2), some (.irem, 0, 0, 0), some (.ifCond .eq 9, 92, 0, 0), none, none, some (.aload_n 0, 0, 0, 0), some (.iconst 5, 0, 0, 5), some (.invokevirtual 158, 161, 2, 0), none, none, some (.ireturn, 0, 0, 0), some (.aload_n 0, 0, 0, 0), some (.iload_n 2, 0, 0, 0), some (.iload 4, 0, 0, 0), none],
  [some (.invokevirtual 298, 236, 3, 0), none, none, some (.istore 5, 0, 0, 0), none, some (.iconst 0, 0, 0, 0), some (.istore 6, 0, 0, 0), none, some (.iload 6, 0, 0, 0), none, some (.aload_n 0, 0, 0, 0), some (.getfield 17, 10, 7, 0), none, none, some (.iload_n 3, 0, 0, 0), some (.iaload, 0, 0, 0)],
  [some (.if_icmp .ge 52, 164, 0, 0), none, none, some (.iload 5, 0, 0, 0), none, some (.ifCond .eq 38, 155, 0, 0), none, none, some (.aload_n 0, 0, 0, 0), some (.iload_n 3, 0, 0, 0), some (.iload 6, 0, 0, 0), none, some (.invokevirtual 168, 164, 3, 0), none, none, some (.iconst 1, 0, 0, 1)],
  [some (.iload 4, 0, 0, 0), none, some (.invokestatic 146, 160, 3, 0), none, none, some (.ifCond .eq 22, 155, 0, 0), none, none, some (.aload_n 0, 0, 0, 0), some (.iload_n 3, 0, 0, 0), some (.iload 6, 0, 0, 0), none, some (.iconst 1, 0, 0, 1), some (.iadd, 0, 0, 0), some (.invokevirtual 168, 164, 3, 0), none],
  [none, some (.invokestatic 181, 174, 1, 0), none, none, some (.ifCond .eq 7, 155, 0, 0), none, none, some (.iconst 1, 0, 0, 1), some (.goto 4, 156, 0, 0), none, none, some (.iconst 0, 0, 0, 0), some (.istore 5, 0, 0, 0), none, some (.iinc 6 2, 0, 0, 2), none],
  [none, some (.goto (-57), 104, 0, 0), none, none, some (.iload 5, 0, 0, 0), none, some (.ifCond .ne 9, 175, 0, 0), none, none, some (.aload_n 0, 0, 0, 0), some (.iconst 3, 0, 0, 3), some (.invokevirtual 158, 161, 2, 0), none, none, some (.ireturn, 0, 0, 0), some (.iconst 0, 0, 0, 0)],
  [some (.istore 6, 0, 0, 0), none, some (.iconst 0, 0, 0, 0), some (.istore 7, 0, 0, 0), none, some (.iconst 0, 0, 0, 0), some (.istore 8, 0, 0, 0), none, some (.iload 8, 0, 0, 0), none, some (.iconst 1, 0, 0, 1), some (.iload 4, 0, 0, 0), none, some (.ishl, 0, 0, 0), some (.if_icmp .ge 53, 243, 0, 0), none],
  [none, some (.aload_n 0, 0, 0, 0), some (.iload_n 1, 0, 0, 0), some (.iload_n 2, 0, 0, 0), some (.iload_n 3, 0, 0, 0), some (.iload 8, 0, 0, 0), none, some (.invokevirtual 319, 242, 5, 0), none, none, some (.ifCond .eq 35, 237, 0, 0), none, none, some (.iload 6, 0, 0, 0), none, some (.ifCond .eq 18, 225, 0, 0)],
  [none, none, some (.iload 8, 0, 0, 0), none, some (.i2l, 0, 0, 0), some (.invokestatic 213, 191, 1, 0), none, none, some (.iload 7, 0, 0, 0), none, some (.i2l, 0, 0, 0), some (.invokestatic 213, 191, 1, 0), none, none, some (.if_icmp .ge 8, 230, 0, 0), none],
  [none, some (.iload 8, 0, 0, 0), none, some (.goto 5, 232, 0, 0), none, none, some (.iload 7, 0, 0, 0), none, some (.istore 7, 0, 0, 0), none, some (.iinc 6 1, 0, 0, 1), none, none, some (.iinc 8 1, 0, 0, 1), none, none],
  [some (.goto (-56), 184, 0, 0), none, none, some (.aload_n 0, 0, 0, 0), some (.iload 7, 0, 0, 0), none, some (.iload 6, 0, 0, 0), none, some (.invokevirtual 172, 168, 3, 0), none, none, some (.ireturn, 0, 0, 0), none, none, none, none]])
def xm242 : XM := (yX10_isCourse, cX10_isCourse, 10, (some .boolean), 1, 23, 0, 0, 10, [[some (.aload_n 0, 0, 0, 0), some (.getfield 17, 10, 7, 0), none, none, some (.iload_n 2, 0, 0, 0), some (.iaload, 0, 0, 0), some (.istore 5, 0, 0, 0), none, some (.iload_n 1, 0, 0, 0), some (.istore 6, 0, 0, 0), none, some (.iconst 1, 0, 0, 1), some (.istore 7, 0, 0, 0), none, some (.iconst 0, 0, 0, 0), some (.istore 8, 0, 0, 0)],
  [none, some (.iload 8, 0, 0, 0), none, some (.iload 5, 0, 0, 0), none, some (.if_icmp .ge 120, 141, 0, 0), none, none, some (.aload_n 0, 0, 0, 0), some (.iload 6, 0, 0, 0), none, some (.aload_n 0, 0, 0, 0), some (.iload_n 2, 0, 0, 0), some (.iload 8, 0, 0, 0), none, some (.invokevirtual 168, 164, 3, 0)],
  [none, none, some (.invokevirtual 197, 186, 3, 0), none, none, some (.istore 6, 0, 0, 0), none, some (.iload 4, 0, 0, 0), none, some (.iload 5, 0, 0, 0), none, some (.iconst 1, 0, 0, 1), some (.isub, 0, 0, 0), some (.iload 8, 0, 0, 0), none, some (.isub, 0, 0, 0)],
  [some (.ishr, 0, 0, 0), some (.iconst 1, 0, 0, 1), some (.iand, 0, 0, 0), some (.iconst 1, 0, 0, 1), some (.if_icmp .ne 8, 60, 0, 0), none, none, some (.iload 6, 0, 0, 0), none, some (.goto 16, 73, 0, 0), none, none, some (.aload_n 0, 0, 0, 0), some (.iload 6, 0, 0, 0), none, some (.aload_n 0, 0, 0, 0)],
  [some (.getfield 36, 10, 13, 0), none, none, some (.iload 6, 0, 0, 0), none, some (.iaload, 0, 0, 0), some (.invokevirtual 197, 186, 3, 0), none, none, some (.istore 6, 0, 0, 0), none, some (.iconst 0, 0, 0, 0), some (.istore 9, 0, 0, 0), none, some (.iload 9, 0, 0, 0), none],
  [some (.aload_n 0, 0, 0, 0), some (.getfield 17, 10, 7, 0), none, none, some (.iload_n 3, 0, 0, 0), some (.iaload, 0, 0, 0), some (.if_icmp .ge 49, 135, 0, 0), none, none, some (.iload 7, 0, 0, 0), none, some (.ifCond .eq 35, 126, 0, 0), none, none, some (.aload_n 0, 0, 0, 0), some (.iload_n 3, 0, 0, 0)],
  [some (.iload 9, 0, 0, 0), none, some (.invokevirtual 168, 164, 3, 0), none, none, some (.iload 8, 0, 0, 0), none, some (.iconst 1, 0, 0, 1), some (.iadd, 0, 0, 0), some (.if_icmp .ne 17, 122, 0, 0), none, none, some (.aload_n 0, 0, 0, 0), some (.iload_n 3, 0, 0, 0), some (.iload 9, 0, 0, 0), none],
  [some (.iconst 1, 0, 0, 1), some (.iadd, 0, 0, 0), some (.invokevirtual 168, 164, 3, 0), none, none, some (.iload 6, 0, 0, 0), none, some (.if_icmp .ne 7, 126, 0, 0), none, none, some (.iconst 1, 0, 0, 1), some (.goto 4, 127, 0, 0), none, none, some (.iconst 0, 0, 0, 0), some (.istore 7, 0, 0, 0)],
  [none, some (.iinc 9 2, 0, 0, 2), none, none, some (.goto (-54), 78, 0, 0), none, none, some (.iinc 8 1, 0, 0, 1), none, none, some (.goto (-121), 17, 0, 0), none, none, some (.iload 7, 0, 0, 0), none, some (.ireturn, 0, 0, 0)]])
def xm243 : XM := (yX10_asked, cX10_asked, 1, (some .int), 0, 0, 0, 0, 10, [[some (.aload_n 0, 0, 0, 0), some (.getfield 143, 10, 2, 0), none, none, some (.ireturn, 0, 0, 0), none, none, none, none, none, none, none, none, none, none, none]])
def xm244 : XM := (yX10_set, cX10_set, 1, (some .long), 0, 0, 0, 0, 10, [[some (.aload_n 0, 0, 0, 0), some (.getfield 223, 10, 3, 0), none, none, some (.lreturn, 0, 0, 0), none, none, none, none, none, none, none, none, none, none, none]])
def xm245 : XM := (yX10_upper, cX10_upper, 1, (some .long), 0, 0, 0, 0, 10, [[some (.aload_n 0, 0, 0, 0), some (.getfield 305, 10, 4, 0), none, none, some (.lreturn, 0, 0, 0), none, none, none, none, none, none, none, none, none, none, none]])
def xm246 : XM := (yX10_lower, cX10_lower, 1, (some .long), 0, 0, 0, 0, 10, [[some (.aload_n 0, 0, 0, 0), some (.getfield 13, 10, 5, 0), none, none, some (.lreturn, 0, 0, 0), none, none, none, none, none, none, none, none, none, none, none]])
def xm247 : XM := (yX10_count, cX10_count, 2, (some .int), 2, 45, 0, 0, 10, [[some (.iload_n 1, 0, 0, 0), some (.iconst 0, 0, 0, 0), some (.bipush 7, 0, 0, 7), none, some (.invokestatic 146, 160, 3, 0), none, none, some (.ifCond .eq 11, 18, 0, 0), none, none, some (.aload_n 0, 0, 0, 0), some (.iload_n 1, 0, 0, 0), some (.invokevirtual 323, 248, 2, 0), none, none, some (.goto 4, 19, 0, 0)],
  [none, none, some (.iconst (-1), 0, 0, (-1)), some (.ireturn, 0, 0, 0), none, none, none, none, none, none, none, none, none, none, none, none]])
def xm248 : XM := (yX10_counts, cX10_counts, 4, (some .int), 1, 22, 0, 0, 10, [[some (.iconst 0, 0, 0, 0), some (.istore_n 2, 0, 0, 0), some (.iload_n 1, 0, 0, 0), some (.tableswitch 125 0 7 #[45, 125, 50, 55, 125, 125, 60, 93], 0, 0, 0), none, none, none, none, none, none, none, none, none, none, none, none],
  [none, none, none, none, none, none, none, none, none, none, none, none, none, none, none, none],
  [none, none, none, none, none, none, none, none, none, none, none, none, none, none, none, none],
  [some (.aload_n 0, 0, 0, 0), some (.getfield 207, 10, 6, 0), none, none, some (.ireturn, 0, 0, 0), some (.aload_n 0, 0, 0, 0), some (.getfield 250, 10, 36, 0), none, none, some (.ireturn, 0, 0, 0), some (.aload_n 0, 0, 0, 0), some (.getfield 210, 10, 30, 0), none, none, some (.ireturn, 0, 0, 0), some (.iconst 0, 0, 0, 0)],
  [some (.istore_n 3, 0, 0, 0), some (.iload_n 3, 0, 0, 0), some (.bipush 6, 0, 0, 6), none, some (.if_icmp .ge 26, 94, 0, 0), none, none, some (.iload_n 2, 0, 0, 0), some (.aload_n 0, 0, 0, 0), some (.getfield 17, 10, 7, 0), none, none, some (.iload_n 3, 0, 0, 0), some (.iaload, 0, 0, 0), some (.ifCond .lt 7, 85, 0, 0), none],
  [none, some (.iconst 1, 0, 0, 1), some (.goto 4, 86, 0, 0), none, none, some (.iconst 0, 0, 0, 0), some (.iadd, 0, 0, 0), some (.istore_n 2, 0, 0, 0), some (.iinc 3 1, 0, 0, 1), none, none, some (.goto (-26), 65, 0, 0), none, none, some (.iload_n 2, 0, 0, 0), some (.ireturn, 0, 0, 0)],
  [some (.iconst 0, 0, 0, 0), some (.istore_n 3, 0, 0, 0), some (.iload_n 3, 0, 0, 0), some (.iconst 4, 0, 0, 4), some (.if_icmp .ge 26, 126, 0, 0), none, none, some (.iload_n 2, 0, 0, 0), some (.aload_n 0, 0, 0, 0), some (.getfield 26, 10, 10, 0), none, none, some (.iload_n 3, 0, 0, 0), some (.iaload, 0, 0, 0), some (.ifCond .lt 7, 117, 0, 0), none],
  [none, some (.iconst 1, 0, 0, 1), some (.goto 4, 118, 0, 0), none, none, some (.iconst 0, 0, 0, 0), some (.iadd, 0, 0, 0), some (.istore_n 2, 0, 0, 0), some (.iinc 3 1, 0, 0, 1), none, none, some (.goto (-25), 98, 0, 0), none, none, some (.iload_n 2, 0, 0, 0), some (.ireturn, 0, 0, 0)],
  [some (.iconst 0, 0, 0, 0), some (.istore_n 3, 0, 0, 0), some (.iload_n 3, 0, 0, 0), some (.bipush 6, 0, 0, 6), none, some (.if_icmp .ge 65, 198, 0, 0), none, none, some (.iload_n 2, 0, 0, 0), some (.iload_n 1, 0, 0, 0), some (.iconst 1, 0, 0, 1), some (.if_icmp .ne 11, 150, 0, 0), none, none, some (.aload_n 0, 0, 0, 0), some (.iload_n 3, 0, 0, 0)],
  [some (.invokevirtual 226, 197, 2, 0), none, none, some (.ifCond .ne 38, 185, 0, 0), none, none, some (.iload_n 1, 0, 0, 0), some (.iconst 4, 0, 0, 4), some (.if_icmp .ne 17, 169, 0, 0), none, none, some (.aload_n 0, 0, 0, 0), some (.getfield 55, 10, 20, 0), none, none, some (.iload_n 3, 0, 0, 0)],
  [some (.iaload, 0, 0, 0), some (.iconst 4, 0, 0, 4), some (.iconst 5, 0, 0, 5), some (.invokestatic 146, 160, 3, 0), none, none, some (.ifCond .ne 19, 185, 0, 0), none, none, some (.iload_n 1, 0, 0, 0), some (.iconst 5, 0, 0, 5), some (.if_icmp .ne 18, 189, 0, 0), none, none, some (.aload_n 0, 0, 0, 0), some (.getfield 55, 10, 20, 0)],
  [none, none, some (.iload_n 3, 0, 0, 0), some (.iaload, 0, 0, 0), some (.bipush 6, 0, 0, 6), none, some (.if_icmp .ne 7, 189, 0, 0), none, none, some (.iconst 1, 0, 0, 1), some (.goto 4, 190, 0, 0), none, none, some (.iconst 0, 0, 0, 0), some (.iadd, 0, 0, 0), some (.istore_n 2, 0, 0, 0)],
  [some (.iinc 3 1, 0, 0, 1), none, none, some (.goto (-65), 130, 0, 0), none, none, some (.iload_n 2, 0, 0, 0), some (.ireturn, 0, 0, 0), none, none, none, none, none, none, none, none]])
def xm249 : XM := (yX10_finding, cX10_finding, 1, (some .int), 0, 0, 0, 0, 10, [[some (.aload_n 0, 0, 0, 0), some (.getfield 140, 10, 0, 0), none, none, some (.ireturn, 0, 0, 0), none, none, none, none, none, none, none, none, none, none, none]])
def xm250 : XM := (yX10_findings, cX10_findings, 2, (some .int), 1, 22, 0, 0, 10, [[some (.iload_n 1, 0, 0, 0), some (.iconst 1, 0, 0, 1), some (.iconst 5, 0, 0, 5), some (.invokestatic 146, 160, 3, 0), none, none, some (.ifCond .eq 12, 18, 0, 0), none, none, some (.aload_n 0, 0, 0, 0), some (.getfield 7, 10, 1, 0), none, none, some (.iload_n 1, 0, 0, 0), some (.iaload, 0, 0, 0), some (.goto 4, 19, 0, 0)],
  [none, none, some (.iconst (-1), 0, 0, (-1)), some (.ireturn, 0, 0, 0), none, none, none, none, none, none, none, none, none, none, none, none]])
def xm251 : XM := (yX10_digest, cX10_digest, 3, (some .long), 4, 89, 0, 0, 10, [[some (.aload_n 0, 0, 0, 0), some (.ldc2_w 335, 0, 0, 17), none, none, some (.putfield 328, 10, 50, 0), none, none, some (.iconst 0, 0, 0, 0), some (.istore_n 1, 0, 0, 0), some (.iload_n 1, 0, 0, 0), some (.bipush 7, 0, 0, 7), none, some (.if_icmp .gt 19, 31, 0, 0), none, none, some (.aload_n 0, 0, 0, 0)],
  [some (.aload_n 0, 0, 0, 0), some (.iload_n 1, 0, 0, 0), some (.invokevirtual 323, 248, 2, 0), none, none, some (.i2l, 0, 0, 0), some (.invokevirtual 331, 252, 2, 0), none, none, some (.iinc 1 1, 0, 0, 1), none, none, some (.goto (-19), 9, 0, 0), none, none, some (.iconst 0, 0, 0, 0)],
  [some (.istore_n 1, 0, 0, 0), some (.iload_n 1, 0, 0, 0), some (.bipush 64, 0, 0, 64), none, some (.if_icmp .ge 33, 69, 0, 0), none, none, some (.iconst 0, 0, 0, 0), some (.istore_n 2, 0, 0, 0), some (.iload_n 2, 0, 0, 0), some (.iconst 4, 0, 0, 4), some (.if_icmp .gt 20, 63, 0, 0), none, none, some (.aload_n 0, 0, 0, 0), some (.aload_n 0, 0, 0, 0)],
  [some (.iload_n 1, 0, 0, 0), some (.iload_n 2, 0, 0, 0), some (.invokevirtual 193, 180, 3, 0), none, none, some (.i2l, 0, 0, 0), some (.invokevirtual 331, 252, 2, 0), none, none, some (.iinc 2 1, 0, 0, 1), none, none, some (.goto (-19), 41, 0, 0), none, none, some (.iinc 1 1, 0, 0, 1)],
  [none, none, some (.goto (-33), 33, 0, 0), none, none, some (.aload_n 0, 0, 0, 0), some (.aload_n 0, 0, 0, 0), some (.getfield 178, 10, 17, 0), none, none, some (.i2l, 0, 0, 0), some (.invokevirtual 331, 252, 2, 0), none, none, some (.aload_n 0, 0, 0, 0), some (.invokevirtual 337, 253, 1, 0)],
  [none, none, some (.aload_n 0, 0, 0, 0), some (.invokevirtual 340, 254, 1, 0), none, none, some (.iconst 0, 0, 0, 0), some (.istore_n 1, 0, 0, 0), some (.iload_n 1, 0, 0, 0), some (.bipush 6, 0, 0, 6), none, some (.if_icmp .ge 64, 155, 0, 0), none, none, some (.aload_n 0, 0, 0, 0), some (.aload_n 0, 0, 0, 0)],
  [some (.getfield 17, 10, 7, 0), none, none, some (.iload_n 1, 0, 0, 0), some (.iaload, 0, 0, 0), some (.ifCond .ge 9, 110, 0, 0), none, none, some (.ldc2_w 343, 0, 0, (-1)), none, none, some (.goto 10, 117, 0, 0), none, none, some (.aload_n 0, 0, 0, 0), some (.getfield 17, 10, 7, 0)],
  [none, none, some (.iload_n 1, 0, 0, 0), some (.iaload, 0, 0, 0), some (.i2l, 0, 0, 0), some (.invokevirtual 331, 252, 2, 0), none, none, some (.iconst 0, 0, 0, 0), some (.istore_n 2, 0, 0, 0), some (.iload_n 2, 0, 0, 0), some (.aload_n 0, 0, 0, 0), some (.getfield 17, 10, 7, 0), none, none, some (.iload_n 1, 0, 0, 0)],
  [some (.iaload, 0, 0, 0), some (.if_icmp .ge 20, 149, 0, 0), none, none, some (.aload_n 0, 0, 0, 0), some (.aload_n 0, 0, 0, 0), some (.iload_n 1, 0, 0, 0), some (.iload_n 2, 0, 0, 0), some (.invokevirtual 168, 164, 3, 0), none, none, some (.i2l, 0, 0, 0), some (.invokevirtual 331, 252, 2, 0), none, none, some (.iinc 2 1, 0, 0, 1)],
  [none, none, some (.goto (-24), 122, 0, 0), none, none, some (.iinc 1 1, 0, 0, 1), none, none, some (.goto (-64), 88, 0, 0), none, none, some (.iconst 0, 0, 0, 0), some (.istore_n 1, 0, 0, 0), some (.iload_n 1, 0, 0, 0), some (.iconst 4, 0, 0, 4), some (.if_icmp .ge 69, 228, 0, 0)],
  [none, none, some (.aload_n 0, 0, 0, 0), some (.aload_n 0, 0, 0, 0), some (.getfield 26, 10, 10, 0), none, none, some (.iload_n 1, 0, 0, 0), some (.iaload, 0, 0, 0), some (.ifCond .ge 9, 178, 0, 0), none, none, some (.ldc2_w 343, 0, 0, (-1)), none, none, some (.goto 10, 185, 0, 0)],
  [none, none, some (.aload_n 0, 0, 0, 0), some (.getfield 26, 10, 10, 0), none, none, some (.iload_n 1, 0, 0, 0), some (.iaload, 0, 0, 0), some (.i2l, 0, 0, 0), some (.invokevirtual 331, 252, 2, 0), none, none, some (.iconst 0, 0, 0, 0), some (.istore_n 2, 0, 0, 0), some (.iload_n 2, 0, 0, 0), some (.aload_n 0, 0, 0, 0)],
  [some (.getfield 26, 10, 10, 0), none, none, some (.iload_n 1, 0, 0, 0), some (.iaload, 0, 0, 0), some (.if_icmp .ge 25, 222, 0, 0), none, none, some (.aload_n 0, 0, 0, 0), some (.aload_n 0, 0, 0, 0), some (.getfield 29, 10, 11, 0), none, none, some (.bipush 40, 0, 0, 40), none, some (.iload_n 1, 0, 0, 0)],
  [some (.imul, 0, 0, 0), some (.iload_n 2, 0, 0, 0), some (.iadd, 0, 0, 0), some (.iaload, 0, 0, 0), some (.i2l, 0, 0, 0), some (.invokevirtual 331, 252, 2, 0), none, none, some (.iinc 2 1, 0, 0, 1), none, none, some (.goto (-29), 190, 0, 0), none, none, some (.iinc 1 1, 0, 0, 1), none],
  [none, some (.goto (-68), 157, 0, 0), none, none, some (.aload_n 0, 0, 0, 0), some (.getfield 328, 10, 50, 0), none, none, some (.lreturn, 0, 0, 0), none, none, none, none, none, none, none]])
def xm252 : XM := (yX10_mix, cX10_mix, 3, none, 0, 0, 0, 0, 10, [[some (.aload_n 0, 0, 0, 0), some (.ldc2_w 326, 0, 0, 31), none, none, some (.aload_n 0, 0, 0, 0), some (.getfield 328, 10, 50, 0), none, none, some (.lmul, 0, 0, 0), some (.lload_n 1, 0, 0, 0), some (.ladd, 0, 0, 0), some (.putfield 328, 10, 50, 0), none, none, some (.return_, 0, 0, 0), none]])
def xm253 : XM := (yX10_mixBoats, cX10_mixBoats, 3, none, 3, 67, 0, 0, 10, [[some (.iconst 0, 0, 0, 0), some (.istore_n 1, 0, 0, 0), some (.iload_n 1, 0, 0, 0), some (.bipush 6, 0, 0, 6), none, some (.if_icmp .ge 71, 76, 0, 0), none, none, some (.iconst 0, 0, 0, 0), some (.istore_n 2, 0, 0, 0), some (.iload_n 2, 0, 0, 0), some (.iconst 5, 0, 0, 5), some (.if_icmp .gt 20, 32, 0, 0), none, none, some (.aload_n 0, 0, 0, 0)],
  [some (.aload_n 0, 0, 0, 0), some (.iload_n 1, 0, 0, 0), some (.iload_n 2, 0, 0, 0), some (.invokevirtual 220, 190, 3, 0), none, none, some (.i2l, 0, 0, 0), some (.invokevirtual 331, 252, 2, 0), none, none, some (.iinc 2 1, 0, 0, 1), none, none, some (.goto (-19), 10, 0, 0), none, none],
  [some (.aload_n 0, 0, 0, 0), some (.aload_n 0, 0, 0, 0), some (.getfield 64, 10, 23, 0), none, none, some (.iload_n 1, 0, 0, 0), some (.laload, 0, 0, 0), some (.invokevirtual 331, 252, 2, 0), none, none, some (.iconst 0, 0, 0, 0), some (.istore_n 2, 0, 0, 0), some (.iload_n 2, 0, 0, 0), some (.iconst 4, 0, 0, 4), some (.if_icmp .ge 24, 70, 0, 0), none],
  [none, some (.aload_n 0, 0, 0, 0), some (.aload_n 0, 0, 0, 0), some (.getfield 122, 10, 44, 0), none, none, some (.iconst 4, 0, 0, 4), some (.iload_n 1, 0, 0, 0), some (.imul, 0, 0, 0), some (.iload_n 2, 0, 0, 0), some (.iadd, 0, 0, 0), some (.iaload, 0, 0, 0), some (.i2l, 0, 0, 0), some (.invokevirtual 331, 252, 2, 0), none, none],
  [some (.iinc 2 1, 0, 0, 1), none, none, some (.goto (-23), 44, 0, 0), none, none, some (.iinc 1 1, 0, 0, 1), none, none, some (.goto (-71), 2, 0, 0), none, none, some (.return_, 0, 0, 0), none, none, none]])
def xm254 : XM := (yX10_mixWords, cX10_mixWords, 3, none, 1, 22, 0, 0, 10, [[some (.iconst 0, 0, 0, 0), some (.istore_n 1, 0, 0, 0), some (.iload_n 1, 0, 0, 0), some (.aload_n 0, 0, 0, 0), some (.getfield 250, 10, 36, 0), none, none, some (.if_icmp .ge 63, 70, 0, 0), none, none, some (.iconst 0, 0, 0, 0), some (.istore_n 2, 0, 0, 0), some (.iload_n 2, 0, 0, 0), some (.iconst 3, 0, 0, 3), some (.if_icmp .gt 20, 34, 0, 0), none],
  [none, some (.aload_n 0, 0, 0, 0), some (.aload_n 0, 0, 0, 0), some (.iload_n 1, 0, 0, 0), some (.iload_n 2, 0, 0, 0), some (.invokevirtual 272, 217, 3, 0), none, none, some (.i2l, 0, 0, 0), some (.invokevirtual 331, 252, 2, 0), none, none, some (.iinc 2 1, 0, 0, 1), none, none, some (.goto (-19), 12, 0, 0)],
  [none, none, some (.iconst 0, 0, 0, 0), some (.istore_n 2, 0, 0, 0), some (.iload_n 2, 0, 0, 0), some (.bipush 6, 0, 0, 6), none, some (.if_icmp .ge 25, 64, 0, 0), none, none, some (.aload_n 0, 0, 0, 0), some (.aload_n 0, 0, 0, 0), some (.getfield 119, 10, 43, 0), none, none, some (.bipush 6, 0, 0, 6)],
  [none, some (.iload_n 1, 0, 0, 0), some (.imul, 0, 0, 0), some (.iload_n 2, 0, 0, 0), some (.iadd, 0, 0, 0), some (.iaload, 0, 0, 0), some (.i2l, 0, 0, 0), some (.invokevirtual 331, 252, 2, 0), none, none, some (.iinc 2 1, 0, 0, 1), none, none, some (.goto (-25), 36, 0, 0), none, none],
  [some (.iinc 1 1, 0, 0, 1), none, none, some (.goto (-65), 2, 0, 0), none, none, some (.iconst 0, 0, 0, 0), some (.istore_n 1, 0, 0, 0), some (.iload_n 1, 0, 0, 0), some (.aload_n 0, 0, 0, 0), some (.getfield 210, 10, 30, 0), none, none, some (.if_icmp .ge 33, 110, 0, 0), none, none],
  [some (.iconst 0, 0, 0, 0), some (.istore_n 2, 0, 0, 0), some (.iload_n 2, 0, 0, 0), some (.iconst 3, 0, 0, 3), some (.if_icmp .gt 20, 104, 0, 0), none, none, some (.aload_n 0, 0, 0, 0), some (.aload_n 0, 0, 0, 0), some (.iload_n 1, 0, 0, 0), some (.iload_n 2, 0, 0, 0), some (.invokevirtual 243, 210, 3, 0), none, none, some (.i2l, 0, 0, 0), some (.invokevirtual 331, 252, 2, 0)],
  [none, none, some (.iinc 2 1, 0, 0, 1), none, none, some (.goto (-19), 82, 0, 0), none, none, some (.iinc 1 1, 0, 0, 1), none, none, some (.goto (-35), 72, 0, 0), none, none, some (.return_, 0, 0, 0), none]])
end
section
/-! ===== methods 256 on ===== -/
def xm256 : XM := (yX10_mixBoats, cX10_mixBoats, 3, none, 3, 67, 0, 0, 10, [[some (.iconst 0, 0, 0, 0), some (.istore_n 1, 0, 0, 0), some (.iload_n 1, 0, 0, 0), some (.bipush 6, 0, 0, 6), none, some (.if_icmp .ge 71, 76, 0, 0), none, none, some (.iconst 0, 0, 0, 0), some (.istore_n 2, 0, 0, 0), some (.iload_n 2, 0, 0, 0), some (.iconst 5, 0, 0, 5), some (.if_icmp .gt 20, 32, 0, 0), none, none, some (.aload_n 0, 0, 0, 0)],
  [some (.aload_n 0, 0, 0, 0), some (.iload_n 1, 0, 0, 0), some (.iload_n 2, 0, 0, 0), some (.invokevirtual 220, 193, 3, 0), none, none, some (.i2l, 0, 0, 0), some (.invokevirtual 331, 255, 2, 0), none, none, some (.iinc 2 1, 0, 0, 1), none, none, some (.goto (-19), 10, 0, 0), none, none],
  [some (.aload_n 0, 0, 0, 0), some (.aload_n 0, 0, 0, 0), some (.getfield 64, 10, 23, 0), none, none, some (.iload_n 1, 0, 0, 0), some (.laload, 0, 0, 0), some (.invokevirtual 331, 255, 2, 0), none, none, some (.iconst 0, 0, 0, 0), some (.istore_n 2, 0, 0, 0), some (.iload_n 2, 0, 0, 0), some (.iconst 4, 0, 0, 4), some (.if_icmp .ge 24, 70, 0, 0), none],
  [none, some (.aload_n 0, 0, 0, 0), some (.aload_n 0, 0, 0, 0), some (.getfield 122, 10, 44, 0), none, none, some (.iconst 4, 0, 0, 4), some (.iload_n 1, 0, 0, 0), some (.imul, 0, 0, 0), some (.iload_n 2, 0, 0, 0), some (.iadd, 0, 0, 0), some (.iaload, 0, 0, 0), some (.i2l, 0, 0, 0), some (.invokevirtual 331, 255, 2, 0), none, none],
  [some (.iinc 2 1, 0, 0, 1), none, none, some (.goto (-23), 44, 0, 0), none, none, some (.iinc 1 1, 0, 0, 1), none, none, some (.goto (-71), 2, 0, 0), none, none, some (.return_, 0, 0, 0), none, none, none]])
def xm257 : XM := (yX10_mixWords, cX10_mixWords, 3, none, 1, 22, 0, 0, 10, [[some (.iconst 0, 0, 0, 0), some (.istore_n 1, 0, 0, 0), some (.iload_n 1, 0, 0, 0), some (.aload_n 0, 0, 0, 0), some (.getfield 250, 10, 36, 0), none, none, some (.if_icmp .ge 63, 70, 0, 0), none, none, some (.iconst 0, 0, 0, 0), some (.istore_n 2, 0, 0, 0), some (.iload_n 2, 0, 0, 0), some (.iconst 3, 0, 0, 3), some (.if_icmp .gt 20, 34, 0, 0), none],
  [none, some (.aload_n 0, 0, 0, 0), some (.aload_n 0, 0, 0, 0), some (.iload_n 1, 0, 0, 0), some (.iload_n 2, 0, 0, 0), some (.invokevirtual 272, 220, 3, 0), none, none, some (.i2l, 0, 0, 0), some (.invokevirtual 331, 255, 2, 0), none, none, some (.iinc 2 1, 0, 0, 1), none, none, some (.goto (-19), 12, 0, 0)],
  [none, none, some (.iconst 0, 0, 0, 0), some (.istore_n 2, 0, 0, 0), some (.iload_n 2, 0, 0, 0), some (.bipush 6, 0, 0, 6), none, some (.if_icmp .ge 25, 64, 0, 0), none, none, some (.aload_n 0, 0, 0, 0), some (.aload_n 0, 0, 0, 0), some (.getfield 119, 10, 43, 0), none, none, some (.bipush 6, 0, 0, 6)],
  [none, some (.iload_n 1, 0, 0, 0), some (.imul, 0, 0, 0), some (.iload_n 2, 0, 0, 0), some (.iadd, 0, 0, 0), some (.iaload, 0, 0, 0), some (.i2l, 0, 0, 0), some (.invokevirtual 331, 255, 2, 0), none, none, some (.iinc 2 1, 0, 0, 1), none, none, some (.goto (-25), 36, 0, 0), none, none],
  [some (.iinc 1 1, 0, 0, 1), none, none, some (.goto (-65), 2, 0, 0), none, none, some (.iconst 0, 0, 0, 0), some (.istore_n 1, 0, 0, 0), some (.iload_n 1, 0, 0, 0), some (.aload_n 0, 0, 0, 0), some (.getfield 210, 10, 30, 0), none, none, some (.if_icmp .ge 33, 110, 0, 0), none, none],
  [some (.iconst 0, 0, 0, 0), some (.istore_n 2, 0, 0, 0), some (.iload_n 2, 0, 0, 0), some (.iconst 3, 0, 0, 3), some (.if_icmp .gt 20, 104, 0, 0), none, none, some (.aload_n 0, 0, 0, 0), some (.aload_n 0, 0, 0, 0), some (.iload_n 1, 0, 0, 0), some (.iload_n 2, 0, 0, 0), some (.invokevirtual 243, 213, 3, 0), none, none, some (.i2l, 0, 0, 0), some (.invokevirtual 331, 255, 2, 0)],
  [none, none, some (.iinc 2 1, 0, 0, 1), none, none, some (.goto (-19), 82, 0, 0), none, none, some (.iinc 1 1, 0, 0, 1), none, none, some (.goto (-35), 72, 0, 0), none, none, some (.return_, 0, 0, 0), none]])
end
section
/-! ===== all methods, and what the lists stand for ===== -/
def xML_0 : List XM := [xm0, xm1, xm2, xm3, xm4, xm5, xm6, xm7, xm8, xm9, xm10, xm11, xm12, xm13, xm14, xm15]
def xML_1 : List XM := [xm16, xm17, xm18, xm19, xm20, xm21, xm22, xm23, xm24, xm25, xm26, xm27, xm28, xm29, xm30, xm31]
def xML_2 : List XM := [xm32, xm33, xm34, xm35, xm36, xm37, xm38, xm39, xm40, xm41, xm42, xm43, xm44, xm45, xm46, xm47]
def xML_3 : List XM := [xm48, xm49, xm50, xm51, xm52, xm53, xm54, xm55, xm56, xm57, xm58, xm59, xm60, xm61, xm62, xm63]
def xML_4 : List XM := [xm64, xm65, xm66, xm67, xm68, xm69, xm70, xm71, xm72, xm73, xm74, xm75, xm76, xm77, xm78, xm79]
def xML_5 : List XM := [xm80, xm81, xm82, xm83, xm84, xm85, xm86, xm87, xm88, xm89, xm90, xm91, xm92, xm93, xm94, xm95]
def xML_6 : List XM := [xm96, xm97, xm98, xm99, xm100, xm101, xm102, xm103, xm104, xm105, xm106, xm107, xm108, xm109, xm110, xm111]
def xML_7 : List XM := [xm112, xm113, xm114, xm115, xm116, xm117, xm118, xm119, xm120, xm121, xm122, xm123, xm124, xm125, xm126, xm127]
def xML_8 : List XM := [xm128, xm129, xm130, xm131, xm132, xm133, xm134, xm135, xm136, xm137, xm138, xm139, xm140, xm141, xm142, xm143]
def xML_9 : List XM := [xm144, xm145, xm146, xm147, xm148, xm149, xm150, xm151, xm152, xm153, xm154, xm155, xm156, xm157, xm158, xm159]
def xML_10 : List XM := [xm160, xm161, xm162, xm163, xm164, xm165, xm166, xm167, xm168, xm169, xm170, xm171, xm172, xm173, xm174, xm175]
def xML_11 : List XM := [xm176, xm177, xm178, xm179, xm180, xm181, xm182, xm183, xm184, xm185, xm186, xm187, xm188, xm189, xm190, xm191]
def xML_12 : List XM := [xm192, xm193, xm194, xm195, xm196, xm197, xm198, xm199, xm200, xm201, xm202, xm203, xm204, xm205, xm206, xm207]
def xML_13 : List XM := [xm208, xm209, xm210, xm211, xm212, xm213, xm214, xm215, xm216, xm217, xm218, xm219, xm220, xm221, xm222, xm223]
def xML_14 : List XM := [xm224, xm225, xm226, xm227, xm228, xm229, xm230, xm231, xm232, xm233, xm234, xm235, xm236, xm237, xm238, xm239]
def xML_15 : List XM := [xm240, xm241, xm242, xm243, xm244, xm245, xm246, xm247, xm248, xm249, xm250, xm251, xm252, xm253, xm254]
def xMLL : List (List XM) := [xML_0, xML_1, xML_2, xML_3, xML_4, xML_5, xML_6, xML_7, xML_8, xML_9, xML_10, xML_11, xML_12, xML_13, xML_14, xML_15]
def xMT (j : Nat) : Option XM := match xMLL[j / 16]? with
  | some r => r[j % 16]?
  | none => none
theorem xFL_0 : xP_FL vwCl xFT xR xfin (9, 11, 9, 0, 0) := ⟨RX9, TX9, 19, tyX9, xclo_9, by decide, xw_2, rfl, rfl, rfl⟩
theorem xFL_1 : xP_FL vwCl xFT xR xfin (9, 15, 9, 1, 0) := ⟨RX9, TX9, 19, tyX9, xclo_9, by decide, xw_3, rfl, rfl, rfl⟩
theorem xFL_2 : xP_FL vwCl xFT xR xfin (9, 21, 9, 2, 0) := ⟨RX9, TX9, 19, tyX9, xclo_9, by decide, xw_10, rfl, rfl, rfl⟩
theorem xFL_3 : xP_FL vwCl xFT xR xfin (9, 27, 9, 3, 0) := ⟨RX9, TX9, 19, tyX9, xclo_9, by decide, xw_12, rfl, rfl, rfl⟩
theorem xFL_4 : xP_FL vwCl xFT xR xfin (9, 33, 9, 4, 0) := ⟨RX9, TX9, 19, tyX9, xclo_9, by decide, xw_14, rfl, rfl, rfl⟩
theorem xFL_5 : xP_FL vwCl xFT xR xfin (9, 39, 9, 5, 0) := ⟨RX9, TX9, 19, tyX9, xclo_9, by decide, xw_16, rfl, rfl, rfl⟩
theorem xFL_6 : xP_FL vwCl xFT xR xfin (9, 46, 9, 6, 0) := ⟨RX9, TX9, 19, tyX9, xclo_9, by decide, xw_22, rfl, rfl, rfl⟩
theorem xFL_7 : xP_FL vwCl xFT xR xfin (9, 53, 9, 7, 0) := ⟨RX9, TX9, 19, tyX9, xclo_9, by decide, xw_28, rfl, rfl, rfl⟩
theorem xFL_8 : xP_FL vwCl xFT xR xfin (9, 60, 9, 8, 0) := ⟨RX9, TX9, 19, tyX9, xclo_9, by decide, xw_34, rfl, rfl, rfl⟩
theorem xFL_9 : xP_FL vwCl xFT xR xfin (9, 64, 9, 9, 0) := ⟨RX9, TX9, 19, tyX9, xclo_9, by decide, xw_35, rfl, rfl, rfl⟩
theorem xFL_10 : xP_FL vwCl xFT xR xfin (9, 68, 9, 13, 0) := ⟨RX9, TX9, 19, tyX9, xclo_9, by decide, xw_36, rfl, rfl, rfl⟩
theorem xFL_11 : xP_FL vwCl xFT xR xfin (9, 72, 9, 18, 0) := ⟨RX9, TX9, 19, tyX9, xclo_9, by decide, xw_37, rfl, rfl, rfl⟩
theorem xFL_12 : xP_FL vwCl xFT xR xfin (6, 9, 6, 0, 0) := ⟨RX6, TX6, 8, tyX6, xclo_6, by decide, xw_49, rfl, rfl, rfl⟩
theorem xFL_13 : xP_FL vwCl xFT xR xfin (6, 15, 6, 1, 0) := ⟨RX6, TX6, 8, tyX6, xclo_6, by decide, xw_50, rfl, rfl, rfl⟩
theorem xFL_14 : xP_FL vwCl xFT xR xfin (6, 18, 6, 2, 0) := ⟨RX6, TX6, 8, tyX6, xclo_6, by decide, xw_51, rfl, rfl, rfl⟩
theorem xFL_15 : xP_FL vwCl xFT xR xfin (6, 21, 6, 3, 0) := ⟨RX6, TX6, 8, tyX6, xclo_6, by decide, xw_52, rfl, rfl, rfl⟩
theorem xFL_16 : xP_FL vwCl xFT xR xfin (6, 24, 6, 4, 0) := ⟨RX6, TX6, 8, tyX6, xclo_6, by decide, xw_53, rfl, rfl, rfl⟩
theorem xFL_17 : xP_FL vwCl xFT xR xfin (6, 31, 6, 5, 0) := ⟨RX6, TX6, 8, tyX6, xclo_6, by decide, xw_59, rfl, rfl, rfl⟩
theorem xFL_18 : xP_FL vwCl xFT xR xfin (7, 9, 7, 0, 0) := ⟨RX7, TX7, 2, tyX7, xclo_7, by decide, xw_62, rfl, rfl, rfl⟩
theorem xFL_19 : xP_FL vwCl xFT xR xfin (5, 9, 5, 0, 0) := ⟨RX5, TX5, 1, tyX5, xclo_5, by decide, xw_64, rfl, rfl, rfl⟩
theorem xFL_20 : xP_FL vwCl xFT xR xfin (3, 9, 3, 0, 0) := ⟨RX3, TX3, 4, tyX3, xclo_3, by decide, xw_66, rfl, rfl, rfl⟩
theorem xFL_21 : xP_FL vwCl xFT xR xfin (3, 15, 3, 1, 0) := ⟨RX3, TX3, 4, tyX3, xclo_3, by decide, xw_67, rfl, rfl, rfl⟩
theorem xFL_22 : xP_FL vwCl xFT xR xfin (1, 11, 1, 0, 0) := ⟨RX1, TX1, 4, tyX1, xclo_1, by decide, xw_69, rfl, rfl, rfl⟩
theorem xFL_23 : xP_FL vwCl xFT xR xfin (1, 15, 1, 1, 0) := ⟨RX1, TX1, 4, tyX1, xclo_1, by decide, xw_70, rfl, rfl, rfl⟩
theorem xFL_24 : xP_FL vwCl xFT xR xfin (1, 18, 1, 2, 0) := ⟨RX1, TX1, 4, tyX1, xclo_1, by decide, xw_71, rfl, rfl, rfl⟩
theorem xFL_25 : xP_FL vwCl xFT xR xfin (1, 21, 1, 3, 0) := ⟨RX1, TX1, 4, tyX1, xclo_1, by decide, xw_72, rfl, rfl, rfl⟩
theorem xFL_26 : xP_FL vwCl xFT xR xfin (4, 9, 4, 0, 0) := ⟨RX4, TX4, 2, tyX4, xclo_4, by decide, xw_74, rfl, rfl, rfl⟩
theorem xFL_27 : xP_FL vwCl xFT xR xfin (4, 15, 4, 1, 0) := ⟨RX4, TX4, 2, tyX4, xclo_4, by decide, xw_75, rfl, rfl, rfl⟩
theorem xFL_28 : xP_FL vwCl xFT xR xfin (0, 9, 0, 0, 0) := ⟨RX0, TX0, 12, tyX0, xclo_0, by decide, xw_77, rfl, rfl, rfl⟩
theorem xFL_29 : xP_FL vwCl xFT xR xfin (0, 15, 0, 3, 0) := ⟨RX0, TX0, 12, tyX0, xclo_0, by decide, xw_78, rfl, rfl, rfl⟩
theorem xFL_30 : xP_FL vwCl xFT xR xfin (0, 19, 0, 4, 0) := ⟨RX0, TX0, 12, tyX0, xclo_0, by decide, xw_79, rfl, rfl, rfl⟩
theorem xFL_31 : xP_FL vwCl xFT xR xfin (0, 23, 0, 5, 0) := ⟨RX0, TX0, 12, tyX0, xclo_0, by decide, xw_80, rfl, rfl, rfl⟩
theorem xFL_32 : xP_FL vwCl xFT xR xfin (0, 26, 0, 7, 0) := ⟨RX0, TX0, 12, tyX0, xclo_0, by decide, xw_81, rfl, rfl, rfl⟩
theorem xFL_33 : xP_FL vwCl xFT xR xfin (9, 444, 9, 14, 0) := ⟨RX9, TX9, 19, tyX9, xclo_9, by decide, xw_95, rfl, rfl, rfl⟩
theorem xFL_34 : xP_FL vwCl xFT xR xfin (9, 98, 4, 0, 0) := ⟨RX4, TX4, 2, tyX4, xclo_4, by decide, xw_104, rfl, rfl, rfl⟩
theorem xFL_35 : xP_FL vwCl xFT xR xfin (9, 364, 9, 15, 0) := ⟨RX9, TX9, 19, tyX9, xclo_9, by decide, xw_109, rfl, rfl, rfl⟩
theorem xFL_36 : xP_FL vwCl xFT xR xfin (9, 104, 4, 1, 0) := ⟨RX4, TX4, 2, tyX4, xclo_4, by decide, xw_110, rfl, rfl, rfl⟩
theorem xFL_37 : xP_FL vwCl xFT xR xfin (9, 120, 6, 7, 0) := ⟨RX6, TX6, 8, tyX6, xclo_6, by decide, xw_118, rfl, rfl, rfl⟩
theorem xFL_38 : xP_FL vwCl xFT xR xfin (9, 218, 0, 2, 0) := ⟨RX0, TX0, 12, tyX0, xclo_0, by decide, xw_131, rfl, rfl, rfl⟩
theorem xFL_39 : xP_FL vwCl xFT xR xfin (6, 37, 6, 6, 0) := ⟨RX6, TX6, 8, tyX6, xclo_6, by decide, xw_132, rfl, rfl, rfl⟩
theorem xFL_40 : xP_FL vwCl xFT xR xfin (9, 139, 6, 0, 0) := ⟨RX6, TX6, 8, tyX6, xclo_6, by decide, xw_141, rfl, rfl, rfl⟩
theorem xFL_41 : xP_FL vwCl xFT xR xfin (9, 145, 6, 2, 0) := ⟨RX6, TX6, 8, tyX6, xclo_6, by decide, xw_146, rfl, rfl, rfl⟩
theorem xFL_42 : xP_FL vwCl xFT xR xfin (9, 152, 6, 3, 0) := ⟨RX6, TX6, 8, tyX6, xclo_6, by decide, xw_152, rfl, rfl, rfl⟩
theorem xFL_43 : xP_FL vwCl xFT xR xfin (9, 159, 9, 12, 0) := ⟨RX9, TX9, 19, tyX9, xclo_9, by decide, xw_157, rfl, rfl, rfl⟩
theorem xFL_44 : xP_FL vwCl xFT xR xfin (0, 29, 0, 1, 0) := ⟨RX0, TX0, 12, tyX0, xclo_0, by decide, xw_165, rfl, rfl, rfl⟩
theorem xFL_45 : xP_FL vwCl xFT xR xfin (0, 32, 0, 2, 0) := ⟨RX0, TX0, 12, tyX0, xclo_0, by decide, xw_166, rfl, rfl, rfl⟩
theorem xFL_46 : xP_FL vwCl xFT xR xfin (0, 35, 0, 6, 0) := ⟨RX0, TX0, 12, tyX0, xclo_0, by decide, xw_167, rfl, rfl, rfl⟩
theorem xFL_47 : xP_FL vwCl xFT xR xfin (0, 38, 0, 8, 0) := ⟨RX0, TX0, 12, tyX0, xclo_0, by decide, xw_168, rfl, rfl, rfl⟩
theorem xFL_48 : xP_FL vwCl xFT xR xfin (9, 170, 0, 1, 0) := ⟨RX0, TX0, 12, tyX0, xclo_0, by decide, xw_173, rfl, rfl, rfl⟩
theorem xFL_49 : xP_FL vwCl xFT xR xfin (9, 185, 0, 3, 0) := ⟨RX0, TX0, 12, tyX0, xclo_0, by decide, xw_174, rfl, rfl, rfl⟩
theorem xFL_50 : xP_FL vwCl xFT xR xfin (9, 191, 0, 4, 0) := ⟨RX0, TX0, 12, tyX0, xclo_0, by decide, xw_175, rfl, rfl, rfl⟩
theorem xFL_51 : xP_FL vwCl xFT xR xfin (9, 476, 0, 6, 0) := ⟨RX0, TX0, 12, tyX0, xclo_0, by decide, xw_184, rfl, rfl, rfl⟩
theorem xFL_52 : xP_FL vwCl xFT xR xfin (9, 215, 9, 11, 0) := ⟨RX9, TX9, 19, tyX9, xclo_9, by decide, xw_188, rfl, rfl, rfl⟩
theorem xFL_53 : xP_FL vwCl xFT xR xfin (9, 367, 2, 3, 0) := ⟨RX2, TX2, 4, tyX2, xclo_2, by decide, xw_189, rfl, rfl, rfl⟩
theorem xFL_54 : xP_FL vwCl xFT xR xfin (9, 176, 0, 9, 0) := ⟨RX0, TX0, 12, tyX0, xclo_0, by decide, xw_192, rfl, rfl, rfl⟩
theorem xFL_55 : xP_FL vwCl xFT xR xfin (9, 179, 0, 10, 0) := ⟨RX0, TX0, 12, tyX0, xclo_0, by decide, xw_193, rfl, rfl, rfl⟩
theorem xFL_56 : xP_FL vwCl xFT xR xfin (9, 188, 0, 8, 0) := ⟨RX0, TX0, 12, tyX0, xclo_0, by decide, xw_198, rfl, rfl, rfl⟩
theorem xFL_57 : xP_FL vwCl xFT xR xfin (9, 428, 9, 16, 0) := ⟨RX9, TX9, 19, tyX9, xclo_9, by decide, xw_203, rfl, rfl, rfl⟩
theorem xFL_58 : xP_FL vwCl xFT xR xfin (9, 201, 0, 5, 0) := ⟨RX0, TX0, 12, tyX0, xclo_0, by decide, xw_208, rfl, rfl, rfl⟩
theorem xFL_59 : xP_FL vwCl xFT xR xfin (9, 267, 9, 10, 0) := ⟨RX9, TX9, 19, tyX9, xclo_9, by decide, xw_240, rfl, rfl, rfl⟩
theorem xFL_60 : xP_FL vwCl xFT xR xfin (9, 308, 8, 6, 0) := ⟨RX8, TX8, 7, tyX8, xclo_8, by decide, xw_250, rfl, rfl, rfl⟩
theorem xFL_61 : xP_FL vwCl xFT xR xfin (8, 15, 8, 6, 0) := ⟨RX8, TX8, 7, tyX8, xclo_8, by decide, xw_255, rfl, rfl, rfl⟩
theorem xFL_62 : xP_FL vwCl xFT xR xfin (8, 9, 8, 5, 0) := ⟨RX8, TX8, 7, tyX8, xclo_8, by decide, xw_256, rfl, rfl, rfl⟩
theorem xFL_63 : xP_FL vwCl xFT xR xfin (9, 282, 8, 0, 0) := ⟨RX8, TX8, 7, tyX8, xclo_8, by decide, xw_257, rfl, rfl, rfl⟩
theorem xFL_64 : xP_FL vwCl xFT xR xfin (9, 286, 8, 4, 0) := ⟨RX8, TX8, 7, tyX8, xclo_8, by decide, xw_258, rfl, rfl, rfl⟩
theorem xFL_65 : xP_FL vwCl xFT xR xfin (9, 503, 8, 2, 0) := ⟨RX8, TX8, 7, tyX8, xclo_8, by decide, xw_259, rfl, rfl, rfl⟩
theorem xFL_66 : xP_FL vwCl xFT xR xfin (9, 289, 8, 3, 0) := ⟨RX8, TX8, 7, tyX8, xclo_8, by decide, xw_268, rfl, rfl, rfl⟩
theorem xFL_67 : xP_FL vwCl xFT xR xfin (6, 79, 7, 0, 0) := ⟨RX7, TX7, 2, tyX7, xclo_7, by decide, xw_288, rfl, rfl, rfl⟩
theorem xFL_68 : xP_FL vwCl xFT xR xfin (7, 15, 7, 1, 0) := ⟨RX7, TX7, 2, tyX7, xclo_7, by decide, xw_289, rfl, rfl, rfl⟩
theorem xFL_69 : xP_FL vwCl xFT xR xfin (7, 23, 6, 4, 0) := ⟨RX6, TX6, 8, tyX6, xclo_6, by decide, xw_293, rfl, rfl, rfl⟩
theorem xFL_70 : xP_FL vwCl xFT xR xfin (7, 28, 6, 6, 0) := ⟨RX6, TX6, 8, tyX6, xclo_6, by decide, xw_294, rfl, rfl, rfl⟩
theorem xFL_71 : xP_FL vwCl xFT xR xfin (9, 223, 0, 11, 0) := ⟨RX0, TX0, 12, tyX0, xclo_0, by decide, xw_315, rfl, rfl, rfl⟩
theorem xFL_72 : xP_FL vwCl xFT xR xfin (2, 7, 2, 0, 0) := ⟨RX2, TX2, 4, tyX2, xclo_2, by decide, xw_317, rfl, rfl, rfl⟩
theorem xFL_73 : xP_FL vwCl xFT xR xfin (2, 13, 2, 1, 0) := ⟨RX2, TX2, 4, tyX2, xclo_2, by decide, xw_318, rfl, rfl, rfl⟩
theorem xFL_74 : xP_FL vwCl xFT xR xfin (2, 16, 2, 2, 0) := ⟨RX2, TX2, 4, tyX2, xclo_2, by decide, xw_319, rfl, rfl, rfl⟩
theorem xFL_75 : xP_FL vwCl xFT xR xfin (2, 19, 2, 3, 0) := ⟨RX2, TX2, 4, tyX2, xclo_2, by decide, xw_320, rfl, rfl, rfl⟩
theorem xFL_76 : xP_FL vwCl xFT xR xfin (9, 233, 2, 2, 0) := ⟨RX2, TX2, 4, tyX2, xclo_2, by decide, xw_325, rfl, rfl, rfl⟩
theorem xFL_77 : xP_FL vwCl xFT xR xfin (9, 236, 2, 1, 0) := ⟨RX2, TX2, 4, tyX2, xclo_2, by decide, xw_326, rfl, rfl, rfl⟩
theorem xFL_78 : xP_FL vwCl xFT xR xfin (9, 261, 0, 7, 0) := ⟨RX0, TX0, 12, tyX0, xclo_0, by decide, xw_343, rfl, rfl, rfl⟩
theorem xFL_79 : xP_FL vwCl xFT xR xfin (8, 18, 8, 0, 0) := ⟨RX8, TX8, 7, tyX8, xclo_8, by decide, xw_358, rfl, rfl, rfl⟩
theorem xFL_80 : xP_FL vwCl xFT xR xfin (8, 22, 8, 1, 0) := ⟨RX8, TX8, 7, tyX8, xclo_8, by decide, xw_359, rfl, rfl, rfl⟩
theorem xFL_81 : xP_FL vwCl xFT xR xfin (8, 25, 8, 2, 0) := ⟨RX8, TX8, 7, tyX8, xclo_8, by decide, xw_360, rfl, rfl, rfl⟩
theorem xFL_82 : xP_FL vwCl xFT xR xfin (8, 28, 8, 3, 0) := ⟨RX8, TX8, 7, tyX8, xclo_8, by decide, xw_361, rfl, rfl, rfl⟩
theorem xFL_83 : xP_FL vwCl xFT xR xfin (8, 31, 8, 4, 0) := ⟨RX8, TX8, 7, tyX8, xclo_8, by decide, xw_362, rfl, rfl, rfl⟩
theorem xFL_84 : xP_FL vwCl xFT xR xfin (9, 299, 8, 1, 0) := ⟨RX8, TX8, 7, tyX8, xclo_8, by decide, xw_363, rfl, rfl, rfl⟩
theorem xFL_85 : xP_FL vwCl xFT xR xfin (9, 510, 8, 5, 0) := ⟨RX8, TX8, 7, tyX8, xclo_8, by decide, xw_364, rfl, rfl, rfl⟩
theorem xFL_86 : xP_FL vwCl xFT xR xfin (5, 15, 4, 1, 0) := ⟨RX4, TX4, 2, tyX4, xclo_4, by decide, xw_416, rfl, rfl, rfl⟩
theorem xFL_87 : xP_FL vwCl xFT xR xfin (5, 21, 4, 0, 0) := ⟨RX4, TX4, 2, tyX4, xclo_4, by decide, xw_417, rfl, rfl, rfl⟩
theorem xFL_88 : xP_FL vwCl xFT xR xfin (9, 341, 0, 0, 0) := ⟨RX0, TX0, 12, tyX0, xclo_0, by decide, xw_427, rfl, rfl, rfl⟩
theorem xFL_89 : xP_FL vwCl xFT xR xfin (9, 344, 5, 0, 0) := ⟨RX5, TX5, 1, tyX5, xclo_5, by decide, xw_428, rfl, rfl, rfl⟩
theorem xFL_90 : xP_FL vwCl xFT xR xfin (9, 370, 2, 0, 0) := ⟨RX2, TX2, 4, tyX2, xclo_2, by decide, xw_439, rfl, rfl, rfl⟩
theorem xFL_91 : xP_FL vwCl xFT xR xfin (9, 388, 3, 3, 0) := ⟨RX3, TX3, 4, tyX3, xclo_3, by decide, xw_460, rfl, rfl, rfl⟩
theorem xFL_92 : xP_FL vwCl xFT xR xfin (9, 391, 3, 2, 0) := ⟨RX3, TX3, 4, tyX3, xclo_3, by decide, xw_461, rfl, rfl, rfl⟩
theorem xFL_93 : xP_FL vwCl xFT xR xfin (6, 66, 4, 1, 0) := ⟨RX4, TX4, 2, tyX4, xclo_4, by decide, xw_482, rfl, rfl, rfl⟩
theorem xFL_94 : xP_FL vwCl xFT xR xfin (6, 72, 4, 0, 0) := ⟨RX4, TX4, 2, tyX4, xclo_4, by decide, xw_483, rfl, rfl, rfl⟩
theorem xFL_95 : xP_FL vwCl xFT xR xfin (3, 19, 3, 2, 0) := ⟨RX3, TX3, 4, tyX3, xclo_3, by decide, xw_484, rfl, rfl, rfl⟩
theorem xFL_96 : xP_FL vwCl xFT xR xfin (3, 33, 3, 3, 0) := ⟨RX3, TX3, 4, tyX3, xclo_3, by decide, xw_490, rfl, rfl, rfl⟩
theorem xFL_97 : xP_FL vwCl xFT xR xfin (9, 407, 1, 0, 0) := ⟨RX1, TX1, 4, tyX1, xclo_1, by decide, xw_500, rfl, rfl, rfl⟩
theorem xFL_98 : xP_FL vwCl xFT xR xfin (9, 431, 9, 17, 0) := ⟨RX9, TX9, 19, tyX9, xclo_9, by decide, xw_523, rfl, rfl, rfl⟩
theorem xFL_99 : xP_FL vwCl xFT xR xfin (10, 7, 10, 1, 0) := ⟨RX10, TX10, 51, tyX10, xclo_10, by decide, xw_579, rfl, rfl, rfl⟩
theorem xFL_100 : xP_FL vwCl xFT xR xfin (10, 13, 10, 5, 0) := ⟨RX10, TX10, 51, tyX10, xclo_10, by decide, xw_580, rfl, rfl, rfl⟩
theorem xFL_101 : xP_FL vwCl xFT xR xfin (10, 17, 10, 7, 0) := ⟨RX10, TX10, 51, tyX10, xclo_10, by decide, xw_581, rfl, rfl, rfl⟩
theorem xFL_102 : xP_FL vwCl xFT xR xfin (10, 20, 10, 8, 0) := ⟨RX10, TX10, 51, tyX10, xclo_10, by decide, xw_582, rfl, rfl, rfl⟩
theorem xFL_103 : xP_FL vwCl xFT xR xfin (10, 23, 10, 9, 0) := ⟨RX10, TX10, 51, tyX10, xclo_10, by decide, xw_583, rfl, rfl, rfl⟩
theorem xFL_104 : xP_FL vwCl xFT xR xfin (10, 26, 10, 10, 0) := ⟨RX10, TX10, 51, tyX10, xclo_10, by decide, xw_584, rfl, rfl, rfl⟩
theorem xFL_105 : xP_FL vwCl xFT xR xfin (10, 29, 10, 11, 0) := ⟨RX10, TX10, 51, tyX10, xclo_10, by decide, xw_585, rfl, rfl, rfl⟩
theorem xFL_106 : xP_FL vwCl xFT xR xfin (10, 32, 10, 12, 0) := ⟨RX10, TX10, 51, tyX10, xclo_10, by decide, xw_586, rfl, rfl, rfl⟩
theorem xFL_107 : xP_FL vwCl xFT xR xfin (10, 36, 10, 13, 0) := ⟨RX10, TX10, 51, tyX10, xclo_10, by decide, xw_587, rfl, rfl, rfl⟩
theorem xFL_108 : xP_FL vwCl xFT xR xfin (10, 39, 10, 14, 0) := ⟨RX10, TX10, 51, tyX10, xclo_10, by decide, xw_588, rfl, rfl, rfl⟩
theorem xFL_109 : xP_FL vwCl xFT xR xfin (10, 42, 10, 15, 0) := ⟨RX10, TX10, 51, tyX10, xclo_10, by decide, xw_589, rfl, rfl, rfl⟩
theorem xFL_110 : xP_FL vwCl xFT xR xfin (10, 45, 10, 16, 0) := ⟨RX10, TX10, 51, tyX10, xclo_10, by decide, xw_590, rfl, rfl, rfl⟩
theorem xFL_111 : xP_FL vwCl xFT xR xfin (10, 48, 10, 18, 0) := ⟨RX10, TX10, 51, tyX10, xclo_10, by decide, xw_591, rfl, rfl, rfl⟩
theorem xFL_112 : xP_FL vwCl xFT xR xfin (10, 52, 10, 19, 0) := ⟨RX10, TX10, 51, tyX10, xclo_10, by decide, xw_592, rfl, rfl, rfl⟩
theorem xFL_113 : xP_FL vwCl xFT xR xfin (10, 55, 10, 20, 0) := ⟨RX10, TX10, 51, tyX10, xclo_10, by decide, xw_593, rfl, rfl, rfl⟩
theorem xFL_114 : xP_FL vwCl xFT xR xfin (10, 58, 10, 21, 0) := ⟨RX10, TX10, 51, tyX10, xclo_10, by decide, xw_594, rfl, rfl, rfl⟩
theorem xFL_115 : xP_FL vwCl xFT xR xfin (10, 61, 10, 22, 0) := ⟨RX10, TX10, 51, tyX10, xclo_10, by decide, xw_595, rfl, rfl, rfl⟩
theorem xFL_116 : xP_FL vwCl xFT xR xfin (10, 64, 10, 23, 0) := ⟨RX10, TX10, 51, tyX10, xclo_10, by decide, xw_596, rfl, rfl, rfl⟩
theorem xFL_117 : xP_FL vwCl xFT xR xfin (10, 68, 10, 24, 0) := ⟨RX10, TX10, 51, tyX10, xclo_10, by decide, xw_597, rfl, rfl, rfl⟩
theorem xFL_118 : xP_FL vwCl xFT xR xfin (10, 71, 10, 25, 0) := ⟨RX10, TX10, 51, tyX10, xclo_10, by decide, xw_598, rfl, rfl, rfl⟩
theorem xFL_119 : xP_FL vwCl xFT xR xfin (10, 74, 10, 26, 0) := ⟨RX10, TX10, 51, tyX10, xclo_10, by decide, xw_599, rfl, rfl, rfl⟩
theorem xFL_120 : xP_FL vwCl xFT xR xfin (10, 77, 10, 27, 0) := ⟨RX10, TX10, 51, tyX10, xclo_10, by decide, xw_600, rfl, rfl, rfl⟩
theorem xFL_121 : xP_FL vwCl xFT xR xfin (10, 80, 10, 28, 0) := ⟨RX10, TX10, 51, tyX10, xclo_10, by decide, xw_601, rfl, rfl, rfl⟩
theorem xFL_122 : xP_FL vwCl xFT xR xfin (10, 83, 10, 29, 0) := ⟨RX10, TX10, 51, tyX10, xclo_10, by decide, xw_602, rfl, rfl, rfl⟩
theorem xFL_123 : xP_FL vwCl xFT xR xfin (10, 86, 10, 31, 0) := ⟨RX10, TX10, 51, tyX10, xclo_10, by decide, xw_603, rfl, rfl, rfl⟩
theorem xFL_124 : xP_FL vwCl xFT xR xfin (10, 89, 10, 32, 0) := ⟨RX10, TX10, 51, tyX10, xclo_10, by decide, xw_604, rfl, rfl, rfl⟩
theorem xFL_125 : xP_FL vwCl xFT xR xfin (10, 92, 10, 33, 0) := ⟨RX10, TX10, 51, tyX10, xclo_10, by decide, xw_605, rfl, rfl, rfl⟩
theorem xFL_126 : xP_FL vwCl xFT xR xfin (10, 95, 10, 34, 0) := ⟨RX10, TX10, 51, tyX10, xclo_10, by decide, xw_606, rfl, rfl, rfl⟩
theorem xFL_127 : xP_FL vwCl xFT xR xfin (10, 98, 10, 35, 0) := ⟨RX10, TX10, 51, tyX10, xclo_10, by decide, xw_607, rfl, rfl, rfl⟩
theorem xFL_128 : xP_FL vwCl xFT xR xfin (10, 101, 10, 37, 0) := ⟨RX10, TX10, 51, tyX10, xclo_10, by decide, xw_608, rfl, rfl, rfl⟩
theorem xFL_129 : xP_FL vwCl xFT xR xfin (10, 104, 10, 38, 0) := ⟨RX10, TX10, 51, tyX10, xclo_10, by decide, xw_609, rfl, rfl, rfl⟩
theorem xFL_130 : xP_FL vwCl xFT xR xfin (10, 107, 10, 39, 0) := ⟨RX10, TX10, 51, tyX10, xclo_10, by decide, xw_610, rfl, rfl, rfl⟩
theorem xFL_131 : xP_FL vwCl xFT xR xfin (10, 110, 10, 40, 0) := ⟨RX10, TX10, 51, tyX10, xclo_10, by decide, xw_611, rfl, rfl, rfl⟩
theorem xFL_132 : xP_FL vwCl xFT xR xfin (10, 113, 10, 41, 0) := ⟨RX10, TX10, 51, tyX10, xclo_10, by decide, xw_612, rfl, rfl, rfl⟩
theorem xFL_133 : xP_FL vwCl xFT xR xfin (10, 116, 10, 42, 0) := ⟨RX10, TX10, 51, tyX10, xclo_10, by decide, xw_613, rfl, rfl, rfl⟩
theorem xFL_134 : xP_FL vwCl xFT xR xfin (10, 119, 10, 43, 0) := ⟨RX10, TX10, 51, tyX10, xclo_10, by decide, xw_614, rfl, rfl, rfl⟩
theorem xFL_135 : xP_FL vwCl xFT xR xfin (10, 122, 10, 44, 0) := ⟨RX10, TX10, 51, tyX10, xclo_10, by decide, xw_615, rfl, rfl, rfl⟩
theorem xFL_136 : xP_FL vwCl xFT xR xfin (10, 125, 10, 45, 0) := ⟨RX10, TX10, 51, tyX10, xclo_10, by decide, xw_616, rfl, rfl, rfl⟩
theorem xFL_137 : xP_FL vwCl xFT xR xfin (10, 128, 10, 46, 0) := ⟨RX10, TX10, 51, tyX10, xclo_10, by decide, xw_617, rfl, rfl, rfl⟩
theorem xFL_138 : xP_FL vwCl xFT xR xfin (10, 131, 10, 47, 0) := ⟨RX10, TX10, 51, tyX10, xclo_10, by decide, xw_618, rfl, rfl, rfl⟩
theorem xFL_139 : xP_FL vwCl xFT xR xfin (10, 134, 10, 48, 0) := ⟨RX10, TX10, 51, tyX10, xclo_10, by decide, xw_619, rfl, rfl, rfl⟩
theorem xFL_140 : xP_FL vwCl xFT xR xfin (10, 137, 10, 49, 0) := ⟨RX10, TX10, 51, tyX10, xclo_10, by decide, xw_620, rfl, rfl, rfl⟩
theorem xFL_141 : xP_FL vwCl xFT xR xfin (10, 140, 10, 0, 0) := ⟨RX10, TX10, 51, tyX10, xclo_10, by decide, xw_632, rfl, rfl, rfl⟩
theorem xFL_142 : xP_FL vwCl xFT xR xfin (10, 143, 10, 2, 0) := ⟨RX10, TX10, 51, tyX10, xclo_10, by decide, xw_641, rfl, rfl, rfl⟩
theorem xFL_143 : xP_FL vwCl xFT xR xfin (10, 178, 10, 17, 0) := ⟨RX10, TX10, 51, tyX10, xclo_10, by decide, xw_660, rfl, rfl, rfl⟩
theorem xFL_144 : xP_FL vwCl xFT xR xfin (10, 207, 10, 6, 0) := ⟨RX10, TX10, 51, tyX10, xclo_10, by decide, xw_683, rfl, rfl, rfl⟩
theorem xFL_145 : xP_FL vwCl xFT xR xfin (10, 210, 10, 30, 0) := ⟨RX10, TX10, 51, tyX10, xclo_10, by decide, xw_698, rfl, rfl, rfl⟩
theorem xFL_146 : xP_FL vwCl xFT xR xfin (10, 223, 10, 3, 0) := ⟨RX10, TX10, 51, tyX10, xclo_10, by decide, xw_699, rfl, rfl, rfl⟩
theorem xFL_147 : xP_FL vwCl xFT xR xfin (10, 250, 10, 36, 0) := ⟨RX10, TX10, 51, tyX10, xclo_10, by decide, xw_717, rfl, rfl, rfl⟩
theorem xFL_148 : xP_FL vwCl xFT xR xfin (10, 305, 10, 4, 0) := ⟨RX10, TX10, 51, tyX10, xclo_10, by decide, xw_801, rfl, rfl, rfl⟩
theorem xFL_149 : xP_FL vwCl xFT xR xfin (10, 328, 10, 50, 0) := ⟨RX10, TX10, 51, tyX10, xclo_10, by decide, xw_811, rfl, rfl, rfl⟩
set_option maxRecDepth 100000 in
theorem xFL_ok : ∀ q ∈ xFL, xP_FL vwCl xFT xR xfin q := List.forall_mem_cons.mpr ⟨xFL_0, List.forall_mem_cons.mpr ⟨xFL_1, List.forall_mem_cons.mpr ⟨xFL_2, List.forall_mem_cons.mpr ⟨xFL_3, List.forall_mem_cons.mpr ⟨xFL_4, List.forall_mem_cons.mpr ⟨xFL_5, List.forall_mem_cons.mpr ⟨xFL_6, List.forall_mem_cons.mpr ⟨xFL_7, List.forall_mem_cons.mpr ⟨xFL_8, List.forall_mem_cons.mpr ⟨xFL_9, List.forall_mem_cons.mpr ⟨xFL_10, List.forall_mem_cons.mpr ⟨xFL_11, List.forall_mem_cons.mpr ⟨xFL_12, List.forall_mem_cons.mpr ⟨xFL_13, List.forall_mem_cons.mpr ⟨xFL_14, List.forall_mem_cons.mpr ⟨xFL_15, List.forall_mem_cons.mpr ⟨xFL_16, List.forall_mem_cons.mpr ⟨xFL_17, List.forall_mem_cons.mpr ⟨xFL_18, List.forall_mem_cons.mpr ⟨xFL_19, List.forall_mem_cons.mpr ⟨xFL_20, List.forall_mem_cons.mpr ⟨xFL_21, List.forall_mem_cons.mpr ⟨xFL_22, List.forall_mem_cons.mpr ⟨xFL_23, List.forall_mem_cons.mpr ⟨xFL_24, List.forall_mem_cons.mpr ⟨xFL_25, List.forall_mem_cons.mpr ⟨xFL_26, List.forall_mem_cons.mpr ⟨xFL_27, List.forall_mem_cons.mpr ⟨xFL_28, List.forall_mem_cons.mpr ⟨xFL_29, List.forall_mem_cons.mpr ⟨xFL_30, List.forall_mem_cons.mpr ⟨xFL_31, List.forall_mem_cons.mpr ⟨xFL_32, List.forall_mem_cons.mpr ⟨xFL_33, List.forall_mem_cons.mpr ⟨xFL_34, List.forall_mem_cons.mpr ⟨xFL_35, List.forall_mem_cons.mpr ⟨xFL_36, List.forall_mem_cons.mpr ⟨xFL_37, List.forall_mem_cons.mpr ⟨xFL_38, List.forall_mem_cons.mpr ⟨xFL_39, List.forall_mem_cons.mpr ⟨xFL_40, List.forall_mem_cons.mpr ⟨xFL_41, List.forall_mem_cons.mpr ⟨xFL_42, List.forall_mem_cons.mpr ⟨xFL_43, List.forall_mem_cons.mpr ⟨xFL_44, List.forall_mem_cons.mpr ⟨xFL_45, List.forall_mem_cons.mpr ⟨xFL_46, List.forall_mem_cons.mpr ⟨xFL_47, List.forall_mem_cons.mpr ⟨xFL_48, List.forall_mem_cons.mpr ⟨xFL_49, List.forall_mem_cons.mpr ⟨xFL_50, List.forall_mem_cons.mpr ⟨xFL_51, List.forall_mem_cons.mpr ⟨xFL_52, List.forall_mem_cons.mpr ⟨xFL_53, List.forall_mem_cons.mpr ⟨xFL_54, List.forall_mem_cons.mpr ⟨xFL_55, List.forall_mem_cons.mpr ⟨xFL_56, List.forall_mem_cons.mpr ⟨xFL_57, List.forall_mem_cons.mpr ⟨xFL_58, List.forall_mem_cons.mpr ⟨xFL_59, List.forall_mem_cons.mpr ⟨xFL_60, List.forall_mem_cons.mpr ⟨xFL_61, List.forall_mem_cons.mpr ⟨xFL_62, List.forall_mem_cons.mpr ⟨xFL_63, List.forall_mem_cons.mpr ⟨xFL_64, List.forall_mem_cons.mpr ⟨xFL_65, List.forall_mem_cons.mpr ⟨xFL_66, List.forall_mem_cons.mpr ⟨xFL_67, List.forall_mem_cons.mpr ⟨xFL_68, List.forall_mem_cons.mpr ⟨xFL_69, List.forall_mem_cons.mpr ⟨xFL_70, List.forall_mem_cons.mpr ⟨xFL_71, List.forall_mem_cons.mpr ⟨xFL_72, List.forall_mem_cons.mpr ⟨xFL_73, List.forall_mem_cons.mpr ⟨xFL_74, List.forall_mem_cons.mpr ⟨xFL_75, List.forall_mem_cons.mpr ⟨xFL_76, List.forall_mem_cons.mpr ⟨xFL_77, List.forall_mem_cons.mpr ⟨xFL_78, List.forall_mem_cons.mpr ⟨xFL_79, List.forall_mem_cons.mpr ⟨xFL_80, List.forall_mem_cons.mpr ⟨xFL_81, List.forall_mem_cons.mpr ⟨xFL_82, List.forall_mem_cons.mpr ⟨xFL_83, List.forall_mem_cons.mpr ⟨xFL_84, List.forall_mem_cons.mpr ⟨xFL_85, List.forall_mem_cons.mpr ⟨xFL_86, List.forall_mem_cons.mpr ⟨xFL_87, List.forall_mem_cons.mpr ⟨xFL_88, List.forall_mem_cons.mpr ⟨xFL_89, List.forall_mem_cons.mpr ⟨xFL_90, List.forall_mem_cons.mpr ⟨xFL_91, List.forall_mem_cons.mpr ⟨xFL_92, List.forall_mem_cons.mpr ⟨xFL_93, List.forall_mem_cons.mpr ⟨xFL_94, List.forall_mem_cons.mpr ⟨xFL_95, List.forall_mem_cons.mpr ⟨xFL_96, List.forall_mem_cons.mpr ⟨xFL_97, List.forall_mem_cons.mpr ⟨xFL_98, List.forall_mem_cons.mpr ⟨xFL_99, List.forall_mem_cons.mpr ⟨xFL_100, List.forall_mem_cons.mpr ⟨xFL_101, List.forall_mem_cons.mpr ⟨xFL_102, List.forall_mem_cons.mpr ⟨xFL_103, List.forall_mem_cons.mpr ⟨xFL_104, List.forall_mem_cons.mpr ⟨xFL_105, List.forall_mem_cons.mpr ⟨xFL_106, List.forall_mem_cons.mpr ⟨xFL_107, List.forall_mem_cons.mpr ⟨xFL_108, List.forall_mem_cons.mpr ⟨xFL_109, List.forall_mem_cons.mpr ⟨xFL_110, List.forall_mem_cons.mpr ⟨xFL_111, List.forall_mem_cons.mpr ⟨xFL_112, List.forall_mem_cons.mpr ⟨xFL_113, List.forall_mem_cons.mpr ⟨xFL_114, List.forall_mem_cons.mpr ⟨xFL_115, List.forall_mem_cons.mpr ⟨xFL_116, List.forall_mem_cons.mpr ⟨xFL_117, List.forall_mem_cons.mpr ⟨xFL_118, List.forall_mem_cons.mpr ⟨xFL_119, List.forall_mem_cons.mpr ⟨xFL_120, List.forall_mem_cons.mpr ⟨xFL_121, List.forall_mem_cons.mpr ⟨xFL_122, List.forall_mem_cons.mpr ⟨xFL_123, List.forall_mem_cons.mpr ⟨xFL_124, List.forall_mem_cons.mpr ⟨xFL_125, List.forall_mem_cons.mpr ⟨xFL_126, List.forall_mem_cons.mpr ⟨xFL_127, List.forall_mem_cons.mpr ⟨xFL_128, List.forall_mem_cons.mpr ⟨xFL_129, List.forall_mem_cons.mpr ⟨xFL_130, List.forall_mem_cons.mpr ⟨xFL_131, List.forall_mem_cons.mpr ⟨xFL_132, List.forall_mem_cons.mpr ⟨xFL_133, List.forall_mem_cons.mpr ⟨xFL_134, List.forall_mem_cons.mpr ⟨xFL_135, List.forall_mem_cons.mpr ⟨xFL_136, List.forall_mem_cons.mpr ⟨xFL_137, List.forall_mem_cons.mpr ⟨xFL_138, List.forall_mem_cons.mpr ⟨xFL_139, List.forall_mem_cons.mpr ⟨xFL_140, List.forall_mem_cons.mpr ⟨xFL_141, List.forall_mem_cons.mpr ⟨xFL_142, List.forall_mem_cons.mpr ⟨xFL_143, List.forall_mem_cons.mpr ⟨xFL_144, List.forall_mem_cons.mpr ⟨xFL_145, List.forall_mem_cons.mpr ⟨xFL_146, List.forall_mem_cons.mpr ⟨xFL_147, List.forall_mem_cons.mpr ⟨xFL_148, List.forall_mem_cons.mpr ⟨xFL_149, fun _ h => absurd h List.not_mem_nil⟩⟩⟩⟩⟩⟩⟩⟩⟩⟩⟩⟩⟩⟩⟩⟩⟩⟩⟩⟩⟩⟩⟩⟩⟩⟩⟩⟩⟩⟩⟩⟩⟩⟩⟩⟩⟩⟩⟩⟩⟩⟩⟩⟩⟩⟩⟩⟩⟩⟩⟩⟩⟩⟩⟩⟩⟩⟩⟩⟩⟩⟩⟩⟩⟩⟩⟩⟩⟩⟩⟩⟩⟩⟩⟩⟩⟩⟩⟩⟩⟩⟩⟩⟩⟩⟩⟩⟩⟩⟩⟩⟩⟩⟩⟩⟩⟩⟩⟩⟩⟩⟩⟩⟩⟩⟩⟩⟩⟩⟩⟩⟩⟩⟩⟩⟩⟩⟩⟩⟩⟩⟩⟩⟩⟩⟩⟩⟩⟩⟩⟩⟩⟩⟩⟩⟩⟩⟩⟩⟩⟩⟩⟩⟩⟩⟩⟩⟩⟩⟩
theorem xMV_0 : xP_MV vwCl xMT xR (9, 78, 9, 2, 0) := ⟨xm9, RX9, rfl, xw_82, xw_83, xw_84, xw_85, xw_86, ⟨rfl, by decide +kernel, by decide +kernel, by decide +kernel⟩, (RX9, TX9, 19), rfl, rfl⟩
theorem xMV_1 : xP_MV vwCl xMT xR (9, 82, 10, 2, 0) := ⟨xm10, RX9, rfl, xw_87, xw_88, xw_89, xw_85, xw_90, ⟨rfl, by decide +kernel, by decide +kernel, by decide +kernel⟩, (RX9, TX9, 19), rfl, rfl⟩
theorem xMV_2 : xP_MV vwCl xMT xR (9, 86, 11, 3, 0) := ⟨xm11, RX4, rfl, xw_91, xw_92, xw_93, xw_40, xw_94, ⟨rfl, by decide +kernel, by decide +kernel, by decide +kernel⟩, (RX4, TX4, 2), rfl, rfl⟩
theorem xMV_3 : xP_MV vwCl xMT xR (9, 90, 13, 1, 0) := ⟨xm13, RX4, rfl, xw_96, xw_97, xw_98, xw_40, xw_99, ⟨rfl, by decide +kernel, by decide +kernel, by decide +kernel⟩, (RX4, TX4, 2), rfl, rfl⟩
theorem xMV_4 : xP_MV vwCl xMT xR (9, 94, 14, 3, 0) := ⟨xm14, RX4, rfl, xw_100, xw_101, xw_102, xw_40, xw_103, ⟨rfl, by decide +kernel, by decide +kernel, by decide +kernel⟩, (RX4, TX4, 2), rfl, rfl⟩
theorem xMV_5 : xP_MV vwCl xMT xR (9, 101, 15, 2, 0) := ⟨xm15, RX9, rfl, xw_105, xw_106, xw_107, xw_85, xw_108, ⟨rfl, by decide +kernel, by decide +kernel, by decide +kernel⟩, (RX9, TX9, 19), rfl, rfl⟩
theorem xMV_6 : xP_MV vwCl xMT xR (9, 113, 20, 2, 0) := ⟨xm20, RX9, rfl, xw_111, xw_112, xw_113, xw_85, xw_114, ⟨rfl, by decide +kernel, by decide +kernel, by decide +kernel⟩, (RX9, TX9, 19), rfl, rfl⟩
theorem xMV_7 : xP_MV vwCl xMT xR (9, 123, 24, 2, 0) := ⟨xm24, RX9, rfl, xw_119, xw_120, xw_121, xw_85, xw_122, ⟨rfl, by decide +kernel, by decide +kernel, by decide +kernel⟩, (RX9, TX9, 19), rfl, rfl⟩
theorem xMV_8 : xP_MV vwCl xMT xR (9, 126, 25, 2, 0) := ⟨xm25, RX6, rfl, xw_123, xw_124, xw_125, xw_6, xw_126, ⟨rfl, by decide +kernel, by decide +kernel, by decide +kernel⟩, (RX6, TX6, 8), rfl, rfl⟩
theorem xMV_9 : xP_MV vwCl xMT xR (9, 129, 27, 3, 0) := ⟨xm27, RX6, rfl, xw_127, xw_128, xw_129, xw_6, xw_130, ⟨rfl, by decide +kernel, by decide +kernel, by decide +kernel⟩, (RX6, TX6, 8), rfl, rfl⟩
theorem xMV_10 : xP_MV vwCl xMT xR (9, 142, 31, 3, 0) := ⟨xm31, RX6, rfl, xw_142, xw_143, xw_144, xw_6, xw_145, ⟨rfl, by decide +kernel, by decide +kernel, by decide +kernel⟩, (RX6, TX6, 8), rfl, rfl⟩
theorem xMV_11 : xP_MV vwCl xMT xR (9, 148, 33, 3, 0) := ⟨xm33, RX6, rfl, xw_147, xw_148, xw_149, xw_6, xw_150, ⟨rfl, by decide +kernel, by decide +kernel, by decide +kernel⟩, (RX6, TX6, 8), rfl, rfl⟩
theorem xMV_12 : xP_MV vwCl xMT xR (6, 45, 25, 2, 0) := ⟨xm25, RX6, rfl, xw_151, xw_124, xw_125, xw_6, xw_126, ⟨rfl, by decide +kernel, by decide +kernel, by decide +kernel⟩, (RX6, TX6, 8), rfl, rfl⟩
theorem xMV_13 : xP_MV vwCl xMT xR (9, 155, 38, 2, 0) := ⟨xm38, RX9, rfl, xw_153, xw_154, xw_155, xw_85, xw_156, ⟨rfl, by decide +kernel, by decide +kernel, by decide +kernel⟩, (RX9, TX9, 19), rfl, rfl⟩
theorem xMV_14 : xP_MV vwCl xMT xR (9, 162, 40, 5, 0) := ⟨xm40, RX0, rfl, xw_158, xw_159, xw_160, xw_45, xw_161, ⟨rfl, by decide +kernel, by decide +kernel, by decide +kernel⟩, (RX0, TX0, 12), rfl, rfl⟩
theorem xMV_15 : xP_MV vwCl xMT xR (9, 166, 42, 4, 0) := ⟨xm42, RX9, rfl, xw_169, xw_170, xw_171, xw_85, xw_172, ⟨rfl, by decide +kernel, by decide +kernel, by decide +kernel⟩, (RX9, TX9, 19), rfl, rfl⟩
theorem xMV_16 : xP_MV vwCl xMT xR (9, 473, 44, 2, 0) := ⟨xm44, RX9, rfl, xw_180, xw_181, xw_182, xw_85, xw_183, ⟨rfl, by decide +kernel, by decide +kernel, by decide +kernel⟩, (RX9, TX9, 19), rfl, rfl⟩
theorem xMV_17 : xP_MV vwCl xMT xR (9, 182, 46, 2, 0) := ⟨xm46, RX9, rfl, xw_194, xw_195, xw_196, xw_85, xw_197, ⟨rfl, by decide +kernel, by decide +kernel, by decide +kernel⟩, (RX9, TX9, 19), rfl, rfl⟩
theorem xMV_18 : xP_MV vwCl xMT xR (9, 194, 48, 2, 0) := ⟨xm48, RX9, rfl, xw_199, xw_200, xw_201, xw_85, xw_202, ⟨rfl, by decide +kernel, by decide +kernel, by decide +kernel⟩, (RX9, TX9, 19), rfl, rfl⟩
theorem xMV_19 : xP_MV vwCl xMT xR (9, 198, 50, 1, 0) := ⟨xm50, RX0, rfl, xw_204, xw_205, xw_206, xw_45, xw_207, ⟨rfl, by decide +kernel, by decide +kernel, by decide +kernel⟩, (RX0, TX0, 12), rfl, rfl⟩
theorem xMV_20 : xP_MV vwCl xMT xR (9, 204, 52, 2, 0) := ⟨xm52, RX9, rfl, xw_209, xw_210, xw_211, xw_85, xw_212, ⟨rfl, by decide +kernel, by decide +kernel, by decide +kernel⟩, (RX9, TX9, 19), rfl, rfl⟩
theorem xMV_21 : xP_MV vwCl xMT xR (9, 208, 57, 2, 0) := ⟨xm57, RX9, rfl, xw_213, xw_214, xw_215, xw_85, xw_216, ⟨rfl, by decide +kernel, by decide +kernel, by decide +kernel⟩, (RX9, TX9, 19), rfl, rfl⟩
theorem xMV_22 : xP_MV vwCl xMT xR (9, 211, 71, 2, 0) := ⟨xm71, RX0, rfl, xw_217, xw_218, xw_219, xw_45, xw_220, ⟨rfl, by decide +kernel, by decide +kernel, by decide +kernel⟩, (RX0, TX0, 12), rfl, rfl⟩
theorem xMV_23 : xP_MV vwCl xMT xR (9, 479, 53, 3, 0) := ⟨xm53, RX6, rfl, xw_221, xw_222, xw_223, xw_6, xw_224, ⟨rfl, by decide +kernel, by decide +kernel, by decide +kernel⟩, (RX6, TX6, 8), rfl, rfl⟩
theorem xMV_24 : xP_MV vwCl xMT xR (9, 482, 54, 1, 0) := ⟨xm54, RX9, rfl, xw_225, xw_226, xw_227, xw_85, xw_228, ⟨rfl, by decide +kernel, by decide +kernel, by decide +kernel⟩, (RX9, TX9, 19), rfl, rfl⟩
theorem xMV_25 : xP_MV vwCl xMT xR (9, 485, 55, 2, 0) := ⟨xm55, RX6, rfl, xw_229, xw_230, xw_231, xw_6, xw_232, ⟨rfl, by decide +kernel, by decide +kernel, by decide +kernel⟩, (RX6, TX6, 8), rfl, rfl⟩
theorem xMV_26 : xP_MV vwCl xMT xR (9, 488, 56, 3, 0) := ⟨xm56, RX6, rfl, xw_233, xw_234, xw_235, xw_6, xw_236, ⟨rfl, by decide +kernel, by decide +kernel, by decide +kernel⟩, (RX6, TX6, 8), rfl, rfl⟩
theorem xMV_27 : xP_MV vwCl xMT xR (6, 55, 53, 3, 0) := ⟨xm53, RX6, rfl, xw_238, xw_222, xw_223, xw_6, xw_224, ⟨rfl, by decide +kernel, by decide +kernel, by decide +kernel⟩, (RX6, TX6, 8), rfl, rfl⟩
theorem xMV_28 : xP_MV vwCl xMT xR (6, 59, 55, 2, 0) := ⟨xm55, RX6, rfl, xw_239, xw_230, xw_231, xw_6, xw_232, ⟨rfl, by decide +kernel, by decide +kernel, by decide +kernel⟩, (RX6, TX6, 8), rfl, rfl⟩
theorem xMV_29 : xP_MV vwCl xMT xR (9, 493, 58, 3, 0) := ⟨xm58, RX8, rfl, xw_241, xw_242, xw_243, xw_244, xw_245, ⟨rfl, by decide +kernel, by decide +kernel, by decide +kernel⟩, (RX8, TX8, 7), rfl, rfl⟩
theorem xMV_30 : xP_MV vwCl xMT xR (9, 496, 59, 2, 0) := ⟨xm59, RX9, rfl, xw_246, xw_247, xw_248, xw_85, xw_249, ⟨rfl, by decide +kernel, by decide +kernel, by decide +kernel⟩, (RX9, TX9, 19), rfl, rfl⟩
theorem xMV_31 : xP_MV vwCl xMT xR (9, 499, 60, 4, 0) := ⟨xm60, RX9, rfl, xw_251, xw_252, xw_253, xw_85, xw_254, ⟨rfl, by decide +kernel, by decide +kernel, by decide +kernel⟩, (RX9, TX9, 19), rfl, rfl⟩
theorem xMV_32 : xP_MV vwCl xMT xR (9, 504, 61, 3, 0) := ⟨xm61, RX6, rfl, xw_260, xw_261, xw_262, xw_6, xw_263, ⟨rfl, by decide +kernel, by decide +kernel, by decide +kernel⟩, (RX6, TX6, 8), rfl, rfl⟩
theorem xMV_33 : xP_MV vwCl xMT xR (9, 242, 65, 2, 0) := ⟨xm65, RX0, rfl, xw_264, xw_265, xw_266, xw_45, xw_267, ⟨rfl, by decide +kernel, by decide +kernel, by decide +kernel⟩, (RX0, TX0, 12), rfl, rfl⟩
theorem xMV_34 : xP_MV vwCl xMT xR (9, 507, 66, 3, 0) := ⟨xm66, RX9, rfl, xw_269, xw_270, xw_271, xw_85, xw_272, ⟨rfl, by decide +kernel, by decide +kernel, by decide +kernel⟩, (RX9, TX9, 19), rfl, rfl⟩
theorem xMV_35 : xP_MV vwCl xMT xR (9, 350, 69, 3, 0) := ⟨xm69, RX6, rfl, xw_276, xw_277, xw_278, xw_6, xw_279, ⟨rfl, by decide +kernel, by decide +kernel, by decide +kernel⟩, (RX6, TX6, 8), rfl, rfl⟩
theorem xMV_36 : xP_MV vwCl xMT xR (6, 75, 62, 2, 0) := ⟨xm62, RX7, rfl, xw_280, xw_281, xw_282, xw_56, xw_283, ⟨rfl, by decide +kernel, by decide +kernel, by decide +kernel⟩, (RX7, TX7, 2), rfl, rfl⟩
theorem xMV_37 : xP_MV vwCl xMT xR (6, 82, 63, 2, 0) := ⟨xm63, RX7, rfl, xw_284, xw_285, xw_286, xw_56, xw_287, ⟨rfl, by decide +kernel, by decide +kernel, by decide +kernel⟩, (RX7, TX7, 2), rfl, rfl⟩
theorem xMV_38 : xP_MV vwCl xMT xR (9, 227, 67, 2, 0) := ⟨xm67, RX9, rfl, xw_298, xw_299, xw_300, xw_85, xw_301, ⟨rfl, by decide +kernel, by decide +kernel, by decide +kernel⟩, (RX9, TX9, 19), rfl, rfl⟩
theorem xMV_39 : xP_MV vwCl xMT xR (0, 41, 50, 1, 0) := ⟨xm50, RX0, rfl, xw_308, xw_205, xw_206, xw_45, xw_207, ⟨rfl, by decide +kernel, by decide +kernel, by decide +kernel⟩, (RX0, TX0, 12), rfl, rfl⟩
theorem xMV_40 : xP_MV vwCl xMT xR (9, 231, 75, 2, 0) := ⟨xm75, RX2, rfl, xw_321, xw_322, xw_323, xw_311, xw_324, ⟨rfl, by decide +kernel, by decide +kernel, by decide +kernel⟩, (RX2, TX2, 4), rfl, rfl⟩
theorem xMV_41 : xP_MV vwCl xMT xR (9, 238, 77, 2, 0) := ⟨xm77, RX6, rfl, xw_327, xw_328, xw_329, xw_6, xw_330, ⟨rfl, by decide +kernel, by decide +kernel, by decide +kernel⟩, (RX6, TX6, 8), rfl, rfl⟩
theorem xMV_42 : xP_MV vwCl xMT xR (9, 251, 80, 2, 0) := ⟨xm80, RX9, rfl, xw_331, xw_332, xw_333, xw_85, xw_334, ⟨rfl, by decide +kernel, by decide +kernel, by decide +kernel⟩, (RX9, TX9, 19), rfl, rfl⟩
theorem xMV_43 : xP_MV vwCl xMT xR (9, 254, 81, 4, 0) := ⟨xm81, RX6, rfl, xw_335, xw_336, xw_337, xw_6, xw_338, ⟨rfl, by decide +kernel, by decide +kernel, by decide +kernel⟩, (RX6, TX6, 8), rfl, rfl⟩
theorem xMV_44 : xP_MV vwCl xMT xR (9, 258, 83, 3, 0) := ⟨xm83, RX9, rfl, xw_339, xw_340, xw_341, xw_85, xw_342, ⟨rfl, by decide +kernel, by decide +kernel, by decide +kernel⟩, (RX9, TX9, 19), rfl, rfl⟩
theorem xMV_45 : xP_MV vwCl xMT xR (9, 264, 84, 3, 0) := ⟨xm84, RX9, rfl, xw_344, xw_345, xw_346, xw_85, xw_347, ⟨rfl, by decide +kernel, by decide +kernel, by decide +kernel⟩, (RX9, TX9, 19), rfl, rfl⟩
theorem xMV_46 : xP_MV vwCl xMT xR (9, 273, 86, 3, 0) := ⟨xm86, RX9, rfl, xw_353, xw_354, xw_355, xw_85, xw_356, ⟨rfl, by decide +kernel, by decide +kernel, by decide +kernel⟩, (RX9, TX9, 19), rfl, rfl⟩
theorem xMV_47 : xP_MV vwCl xMT xR (9, 277, 88, 2, 0) := ⟨xm88, RX9, rfl, xw_368, xw_369, xw_370, xw_85, xw_371, ⟨rfl, by decide +kernel, by decide +kernel, by decide +kernel⟩, (RX9, TX9, 19), rfl, rfl⟩
theorem xMV_48 : xP_MV vwCl xMT xR (9, 281, 89, 2, 0) := ⟨xm89, RX8, rfl, xw_372, xw_373, xw_374, xw_244, xw_375, ⟨rfl, by decide +kernel, by decide +kernel, by decide +kernel⟩, (RX8, TX8, 7), rfl, rfl⟩
theorem xMV_49 : xP_MV vwCl xMT xR (9, 292, 91, 2, 0) := ⟨xm91, RX9, rfl, xw_377, xw_378, xw_379, xw_85, xw_380, ⟨rfl, by decide +kernel, by decide +kernel, by decide +kernel⟩, (RX9, TX9, 19), rfl, rfl⟩
theorem xMV_50 : xP_MV vwCl xMT xR (9, 295, 92, 1, 0) := ⟨xm92, RX8, rfl, xw_381, xw_382, xw_383, xw_244, xw_384, ⟨rfl, by decide +kernel, by decide +kernel, by decide +kernel⟩, (RX8, TX8, 7), rfl, rfl⟩
theorem xMV_51 : xP_MV vwCl xMT xR (9, 314, 96, 2, 0) := ⟨xm96, RX8, rfl, xw_389, xw_390, xw_391, xw_244, xw_392, ⟨rfl, by decide +kernel, by decide +kernel, by decide +kernel⟩, (RX8, TX8, 7), rfl, rfl⟩
theorem xMV_52 : xP_MV vwCl xMT xR (9, 317, 97, 4, 0) := ⟨xm97, RX9, rfl, xw_393, xw_394, xw_395, xw_85, xw_396, ⟨rfl, by decide +kernel, by decide +kernel, by decide +kernel⟩, (RX9, TX9, 19), rfl, rfl⟩
theorem xMV_53 : xP_MV vwCl xMT xR (9, 321, 99, 5, 0) := ⟨xm99, RX9, rfl, xw_397, xw_398, xw_399, xw_85, xw_400, ⟨rfl, by decide +kernel, by decide +kernel, by decide +kernel⟩, (RX9, TX9, 19), rfl, rfl⟩
theorem xMV_54 : xP_MV vwCl xMT xR (9, 513, 98, 4, 0) := ⟨xm98, RX9, rfl, xw_401, xw_402, xw_403, xw_85, xw_404, ⟨rfl, by decide +kernel, by decide +kernel, by decide +kernel⟩, (RX9, TX9, 19), rfl, rfl⟩
theorem xMV_55 : xP_MV vwCl xMT xR (9, 329, 101, 5, 0) := ⟨xm101, RX9, rfl, xw_405, xw_406, xw_407, xw_85, xw_408, ⟨rfl, by decide +kernel, by decide +kernel, by decide +kernel⟩, (RX9, TX9, 19), rfl, rfl⟩
theorem xMV_56 : xP_MV vwCl xMT xR (9, 337, 104, 2, 0) := ⟨xm104, RX5, rfl, xw_412, xw_413, xw_414, xw_19, xw_415, ⟨rfl, by decide +kernel, by decide +kernel, by decide +kernel⟩, (RX5, TX5, 1), rfl, rfl⟩
theorem xMV_57 : xP_MV vwCl xMT xR (9, 353, 111, 2, 0) := ⟨xm111, RX9, rfl, xw_429, xw_430, xw_431, xw_85, xw_432, ⟨rfl, by decide +kernel, by decide +kernel, by decide +kernel⟩, (RX9, TX9, 19), rfl, rfl⟩
theorem xMV_58 : xP_MV vwCl xMT xR (9, 375, 118, 2, 0) := ⟨xm118, RX9, rfl, xw_444, xw_445, xw_446, xw_85, xw_447, ⟨rfl, by decide +kernel, by decide +kernel, by decide +kernel⟩, (RX9, TX9, 19), rfl, rfl⟩
theorem xMV_59 : xP_MV vwCl xMT xR (9, 378, 121, 1, 0) := ⟨xm121, RX3, rfl, xw_448, xw_449, xw_450, xw_25, xw_451, ⟨rfl, by decide +kernel, by decide +kernel, by decide +kernel⟩, (RX3, TX3, 4), rfl, rfl⟩
theorem xMV_60 : xP_MV vwCl xMT xR (9, 381, 122, 4, 0) := ⟨xm122, RX9, rfl, xw_452, xw_453, xw_454, xw_85, xw_455, ⟨rfl, by decide +kernel, by decide +kernel, by decide +kernel⟩, (RX9, TX9, 19), rfl, rfl⟩
theorem xMV_61 : xP_MV vwCl xMT xR (9, 385, 126, 1, 0) := ⟨xm126, RX3, rfl, xw_456, xw_457, xw_458, xw_25, xw_459, ⟨rfl, by decide +kernel, by decide +kernel, by decide +kernel⟩, (RX3, TX3, 4), rfl, rfl⟩
theorem xMV_62 : xP_MV vwCl xMT xR (9, 525, 124, 3, 0) := ⟨xm124, RX6, rfl, xw_474, xw_475, xw_476, xw_6, xw_477, ⟨rfl, by decide +kernel, by decide +kernel, by decide +kernel⟩, (RX6, TX6, 8), rfl, rfl⟩
theorem xMV_63 : xP_MV vwCl xMT xR (9, 529, 125, 4, 0) := ⟨xm125, RX3, rfl, xw_478, xw_479, xw_480, xw_25, xw_481, ⟨rfl, by decide +kernel, by decide +kernel, by decide +kernel⟩, (RX3, TX3, 4), rfl, rfl⟩
theorem xMV_64 : xP_MV vwCl xMT xR (3, 23, 127, 4, 0) := ⟨xm127, RX3, rfl, xw_485, xw_486, xw_487, xw_25, xw_488, ⟨rfl, by decide +kernel, by decide +kernel, by decide +kernel⟩, (RX3, TX3, 4), rfl, rfl⟩
theorem xMV_65 : xP_MV vwCl xMT xR (9, 398, 129, 2, 0) := ⟨xm129, RX1, rfl, xw_491, xw_492, xw_493, xw_31, xw_494, ⟨rfl, by decide +kernel, by decide +kernel, by decide +kernel⟩, (RX1, TX1, 4), rfl, rfl⟩
theorem xMV_66 : xP_MV vwCl xMT xR (9, 401, 132, 4, 0) := ⟨xm132, RX1, rfl, xw_495, xw_496, xw_497, xw_31, xw_498, ⟨rfl, by decide +kernel, by decide +kernel, by decide +kernel⟩, (RX1, TX1, 4), rfl, rfl⟩
theorem xMV_67 : xP_MV vwCl xMT xR (9, 410, 134, 3, 0) := ⟨xm134, RX9, rfl, xw_501, xw_502, xw_503, xw_85, xw_504, ⟨rfl, by decide +kernel, by decide +kernel, by decide +kernel⟩, (RX9, TX9, 19), rfl, rfl⟩
theorem xMV_68 : xP_MV vwCl xMT xR (1, 24, 130, 1, 0) := ⟨xm130, RX1, rfl, xw_505, xw_506, xw_507, xw_31, xw_508, ⟨rfl, by decide +kernel, by decide +kernel, by decide +kernel⟩, (RX1, TX1, 4), rfl, rfl⟩
theorem xMV_69 : xP_MV vwCl xMT xR (1, 27, 131, 1, 0) := ⟨xm131, RX1, rfl, xw_509, xw_510, xw_511, xw_31, xw_512, ⟨rfl, by decide +kernel, by decide +kernel, by decide +kernel⟩, (RX1, TX1, 4), rfl, rfl⟩
theorem xMV_70 : xP_MV vwCl xMT xR (1, 30, 53, 3, 0) := ⟨xm53, RX6, rfl, xw_513, xw_222, xw_223, xw_6, xw_224, ⟨rfl, by decide +kernel, by decide +kernel, by decide +kernel⟩, (RX6, TX6, 8), rfl, rfl⟩
theorem xMV_71 : xP_MV vwCl xMT xR (1, 36, 55, 2, 0) := ⟨xm55, RX6, rfl, xw_514, xw_230, xw_231, xw_6, xw_232, ⟨rfl, by decide +kernel, by decide +kernel, by decide +kernel⟩, (RX6, TX6, 8), rfl, rfl⟩
theorem xMV_72 : xP_MV vwCl xMT xR (1, 40, 133, 4, 0) := ⟨xm133, RX1, rfl, xw_515, xw_516, xw_517, xw_31, xw_518, ⟨rfl, by decide +kernel, by decide +kernel, by decide +kernel⟩, (RX1, TX1, 4), rfl, rfl⟩
theorem xMV_73 : xP_MV vwCl xMT xR (9, 418, 138, 3, 0) := ⟨xm138, RX9, rfl, xw_527, xw_528, xw_529, xw_85, xw_530, ⟨rfl, by decide +kernel, by decide +kernel, by decide +kernel⟩, (RX9, TX9, 19), rfl, rfl⟩
theorem xMV_74 : xP_MV vwCl xMT xR (9, 422, 140, 1, 0) := ⟨xm140, RX1, rfl, xw_531, xw_532, xw_533, xw_31, xw_534, ⟨rfl, by decide +kernel, by decide +kernel, by decide +kernel⟩, (RX1, TX1, 4), rfl, rfl⟩
theorem xMV_75 : xP_MV vwCl xMT xR (9, 425, 141, 1, 0) := ⟨xm141, RX1, rfl, xw_535, xw_536, xw_537, xw_31, xw_538, ⟨rfl, by decide +kernel, by decide +kernel, by decide +kernel⟩, (RX1, TX1, 4), rfl, rfl⟩
theorem xMV_76 : xP_MV vwCl xMT xR (9, 537, 139, 2, 0) := ⟨xm139, RX1, rfl, xw_542, xw_543, xw_544, xw_31, xw_545, ⟨rfl, by decide +kernel, by decide +kernel, by decide +kernel⟩, (RX1, TX1, 4), rfl, rfl⟩
theorem xMV_77 : xP_MV vwCl xMT xR (9, 434, 147, 1, 0) := ⟨xm147, RX9, rfl, xw_546, xw_547, xw_548, xw_85, xw_549, ⟨rfl, by decide +kernel, by decide +kernel, by decide +kernel⟩, (RX9, TX9, 19), rfl, rfl⟩
theorem xMV_78 : xP_MV vwCl xMT xR (9, 437, 148, 2, 0) := ⟨xm148, RX9, rfl, xw_550, xw_551, xw_552, xw_85, xw_553, ⟨rfl, by decide +kernel, by decide +kernel, by decide +kernel⟩, (RX9, TX9, 19), rfl, rfl⟩
theorem xMV_79 : xP_MV vwCl xMT xR (9, 451, 146, 2, 0) := ⟨xm146, RX9, rfl, xw_559, xw_560, xw_561, xw_85, xw_562, ⟨rfl, by decide +kernel, by decide +kernel, by decide +kernel⟩, (RX9, TX9, 19), rfl, rfl⟩
theorem xMV_80 : xP_MV vwCl xMT xR (9, 454, 153, 2, 0) := ⟨xm153, RX9, rfl, xw_563, xw_564, xw_565, xw_85, xw_566, ⟨rfl, by decide +kernel, by decide +kernel, by decide +kernel⟩, (RX9, TX9, 19), rfl, rfl⟩
theorem xMV_81 : xP_MV vwCl xMT xR (9, 458, 154, 2, 0) := ⟨xm154, RX9, rfl, xw_567, xw_568, xw_569, xw_85, xw_570, ⟨rfl, by decide +kernel, by decide +kernel, by decide +kernel⟩, (RX9, TX9, 19), rfl, rfl⟩
theorem xMV_82 : xP_MV vwCl xMT xR (9, 461, 155, 2, 0) := ⟨xm155, RX9, rfl, xw_571, xw_572, xw_573, xw_85, xw_574, ⟨rfl, by decide +kernel, by decide +kernel, by decide +kernel⟩, (RX9, TX9, 19), rfl, rfl⟩
theorem xMV_83 : xP_MV vwCl xMT xR (10, 158, 161, 2, 0) := ⟨xm161, RX10, rfl, xw_625, xw_626, xw_627, xw_623, xw_628, ⟨rfl, by decide +kernel, by decide +kernel, by decide +kernel⟩, (RX10, TX10, 51), rfl, rfl⟩
theorem xMV_84 : xP_MV vwCl xMT xR (10, 165, 163, 2, 0) := ⟨xm163, RX10, rfl, xw_633, xw_634, xw_635, xw_623, xw_636, ⟨rfl, by decide +kernel, by decide +kernel, by decide +kernel⟩, (RX10, TX10, 51), rfl, rfl⟩
theorem xMV_85 : xP_MV vwCl xMT xR (10, 168, 164, 3, 0) := ⟨xm164, RX10, rfl, xw_637, xw_638, xw_639, xw_623, xw_640, ⟨rfl, by decide +kernel, by decide +kernel, by decide +kernel⟩, (RX10, TX10, 51), rfl, rfl⟩
theorem xMV_86 : xP_MV vwCl xMT xR (10, 172, 168, 3, 0) := ⟨xm168, RX10, rfl, xw_642, xw_643, xw_644, xw_623, xw_645, ⟨rfl, by decide +kernel, by decide +kernel, by decide +kernel⟩, (RX10, TX10, 51), rfl, rfl⟩
theorem xMV_87 : xP_MV vwCl xMT xR (10, 175, 172, 2, 0) := ⟨xm172, RX10, rfl, xw_649, xw_650, xw_651, xw_623, xw_652, ⟨rfl, by decide +kernel, by decide +kernel, by decide +kernel⟩, (RX10, TX10, 51), rfl, rfl⟩
theorem xMV_88 : xP_MV vwCl xMT xR (10, 184, 175, 2, 0) := ⟨xm175, RX10, rfl, xw_656, xw_657, xw_658, xw_623, xw_659, ⟨rfl, by decide +kernel, by decide +kernel, by decide +kernel⟩, (RX10, TX10, 51), rfl, rfl⟩
theorem xMV_89 : xP_MV vwCl xMT xR (10, 193, 180, 3, 0) := ⟨xm180, RX10, rfl, xw_667, xw_668, xw_669, xw_623, xw_670, ⟨rfl, by decide +kernel, by decide +kernel, by decide +kernel⟩, (RX10, TX10, 51), rfl, rfl⟩
theorem xMV_90 : xP_MV vwCl xMT xR (10, 200, 185, 2, 0) := ⟨xm185, RX10, rfl, xw_671, xw_672, xw_673, xw_623, xw_674, ⟨rfl, by decide +kernel, by decide +kernel, by decide +kernel⟩, (RX10, TX10, 51), rfl, rfl⟩
theorem xMV_91 : xP_MV vwCl xMT xR (10, 197, 186, 3, 0) := ⟨xm186, RX10, rfl, xw_676, xw_677, xw_678, xw_623, xw_679, ⟨rfl, by decide +kernel, by decide +kernel, by decide +kernel⟩, (RX10, TX10, 51), rfl, rfl⟩
theorem xMV_92 : xP_MV vwCl xMT xR (10, 220, 190, 3, 0) := ⟨xm190, RX10, rfl, xw_684, xw_685, xw_686, xw_623, xw_687, ⟨rfl, by decide +kernel, by decide +kernel, by decide +kernel⟩, (RX10, TX10, 51), rfl, rfl⟩
theorem xMV_93 : xP_MV vwCl xMT xR (10, 217, 193, 2, 0) := ⟨xm193, RX10, rfl, xw_691, xw_692, xw_693, xw_623, xw_694, ⟨rfl, by decide +kernel, by decide +kernel, by decide +kernel⟩, (RX10, TX10, 51), rfl, rfl⟩
theorem xMV_94 : xP_MV vwCl xMT xR (10, 226, 197, 2, 0) := ⟨xm197, RX10, rfl, xw_700, xw_701, xw_702, xw_623, xw_703, ⟨rfl, by decide +kernel, by decide +kernel, by decide +kernel⟩, (RX10, TX10, 51), rfl, rfl⟩
theorem xMV_95 : xP_MV vwCl xMT xR (10, 234, 199, 2, 0) := ⟨xm199, RX10, rfl, xw_704, xw_705, xw_706, xw_623, xw_707, ⟨rfl, by decide +kernel, by decide +kernel, by decide +kernel⟩, (RX10, TX10, 51), rfl, rfl⟩
theorem xMV_96 : xP_MV vwCl xMT xR (10, 237, 201, 2, 0) := ⟨xm201, RX10, rfl, xw_708, xw_709, xw_710, xw_623, xw_711, ⟨rfl, by decide +kernel, by decide +kernel, by decide +kernel⟩, (RX10, TX10, 51), rfl, rfl⟩
theorem xMV_97 : xP_MV vwCl xMT xR (10, 230, 200, 1, 0) := ⟨xm200, RX10, rfl, xw_712, xw_713, xw_714, xw_623, xw_715, ⟨rfl, by decide +kernel, by decide +kernel, by decide +kernel⟩, (RX10, TX10, 51), rfl, rfl⟩
theorem xMV_98 : xP_MV vwCl xMT xR (10, 253, 202, 3, 0) := ⟨xm202, RX10, rfl, xw_718, xw_719, xw_720, xw_623, xw_721, ⟨rfl, by decide +kernel, by decide +kernel, by decide +kernel⟩, (RX10, TX10, 51), rfl, rfl⟩
theorem xMV_99 : xP_MV vwCl xMT xR (10, 263, 203, 3, 0) := ⟨xm203, RX10, rfl, xw_722, xw_723, xw_724, xw_623, xw_725, ⟨rfl, by decide +kernel, by decide +kernel, by decide +kernel⟩, (RX10, TX10, 51), rfl, rfl⟩
theorem xMV_100 : xP_MV vwCl xMT xR (10, 266, 204, 3, 0) := ⟨xm204, RX10, rfl, xw_726, xw_727, xw_728, xw_623, xw_729, ⟨rfl, by decide +kernel, by decide +kernel, by decide +kernel⟩, (RX10, TX10, 51), rfl, rfl⟩
theorem xMV_101 : xP_MV vwCl xMT xR (10, 240, 209, 2, 0) := ⟨xm209, RX10, rfl, xw_736, xw_737, xw_738, xw_623, xw_739, ⟨rfl, by decide +kernel, by decide +kernel, by decide +kernel⟩, (RX10, TX10, 51), rfl, rfl⟩
theorem xMV_102 : xP_MV vwCl xMT xR (10, 243, 210, 3, 0) := ⟨xm210, RX10, rfl, xw_740, xw_741, xw_742, xw_623, xw_743, ⟨rfl, by decide +kernel, by decide +kernel, by decide +kernel⟩, (RX10, TX10, 51), rfl, rfl⟩
theorem xMV_103 : xP_MV vwCl xMT xR (10, 246, 214, 3, 0) := ⟨xm214, RX10, rfl, xw_744, xw_745, xw_746, xw_623, xw_747, ⟨rfl, by decide +kernel, by decide +kernel, by decide +kernel⟩, (RX10, TX10, 51), rfl, rfl⟩
theorem xMV_104 : xP_MV vwCl xMT xR (10, 269, 216, 2, 0) := ⟨xm216, RX10, rfl, xw_748, xw_749, xw_750, xw_623, xw_751, ⟨rfl, by decide +kernel, by decide +kernel, by decide +kernel⟩, (RX10, TX10, 51), rfl, rfl⟩
theorem xMV_105 : xP_MV vwCl xMT xR (10, 272, 217, 3, 0) := ⟨xm217, RX10, rfl, xw_752, xw_753, xw_754, xw_623, xw_755, ⟨rfl, by decide +kernel, by decide +kernel, by decide +kernel⟩, (RX10, TX10, 51), rfl, rfl⟩
theorem xMV_106 : xP_MV vwCl xMT xR (10, 282, 221, 5, 0) := ⟨xm221, RX10, rfl, xw_756, xw_757, xw_758, xw_623, xw_759, ⟨rfl, by decide +kernel, by decide +kernel, by decide +kernel⟩, (RX10, TX10, 51), rfl, rfl⟩
theorem xMV_107 : xP_MV vwCl xMT xR (10, 275, 222, 3, 0) := ⟨xm222, RX10, rfl, xw_760, xw_761, xw_762, xw_623, xw_763, ⟨rfl, by decide +kernel, by decide +kernel, by decide +kernel⟩, (RX10, TX10, 51), rfl, rfl⟩
theorem xMV_108 : xP_MV vwCl xMT xR (10, 278, 223, 4, 0) := ⟨xm223, RX10, rfl, xw_764, xw_765, xw_766, xw_623, xw_767, ⟨rfl, by decide +kernel, by decide +kernel, by decide +kernel⟩, (RX10, TX10, 51), rfl, rfl⟩
theorem xMV_109 : xP_MV vwCl xMT xR (10, 289, 226, 2, 0) := ⟨xm226, RX10, rfl, xw_768, xw_769, xw_770, xw_623, xw_771, ⟨rfl, by decide +kernel, by decide +kernel, by decide +kernel⟩, (RX10, TX10, 51), rfl, rfl⟩
theorem xMV_110 : xP_MV vwCl xMT xR (10, 292, 232, 2, 0) := ⟨xm232, RX10, rfl, xw_775, xw_776, xw_777, xw_623, xw_778, ⟨rfl, by decide +kernel, by decide +kernel, by decide +kernel⟩, (RX10, TX10, 51), rfl, rfl⟩
theorem xMV_111 : xP_MV vwCl xMT xR (10, 295, 233, 5, 0) := ⟨xm233, RX10, rfl, xw_779, xw_780, xw_781, xw_623, xw_782, ⟨rfl, by decide +kernel, by decide +kernel, by decide +kernel⟩, (RX10, TX10, 51), rfl, rfl⟩
theorem xMV_112 : xP_MV vwCl xMT xR (10, 298, 236, 3, 0) := ⟨xm236, RX10, rfl, xw_783, xw_784, xw_785, xw_623, xw_786, ⟨rfl, by decide +kernel, by decide +kernel, by decide +kernel⟩, (RX10, TX10, 51), rfl, rfl⟩
theorem xMV_113 : xP_MV vwCl xMT xR (10, 301, 237, 3, 0) := ⟨xm237, RX10, rfl, xw_787, xw_788, xw_789, xw_623, xw_790, ⟨rfl, by decide +kernel, by decide +kernel, by decide +kernel⟩, (RX10, TX10, 51), rfl, rfl⟩
theorem xMV_114 : xP_MV vwCl xMT xR (10, 308, 239, 4, 0) := ⟨xm239, RX10, rfl, xw_791, xw_792, xw_793, xw_623, xw_794, ⟨rfl, by decide +kernel, by decide +kernel, by decide +kernel⟩, (RX10, TX10, 51), rfl, rfl⟩
theorem xMV_115 : xP_MV vwCl xMT xR (10, 315, 240, 3, 0) := ⟨xm240, RX10, rfl, xw_797, xw_798, xw_799, xw_623, xw_800, ⟨rfl, by decide +kernel, by decide +kernel, by decide +kernel⟩, (RX10, TX10, 51), rfl, rfl⟩
theorem xMV_116 : xP_MV vwCl xMT xR (10, 319, 242, 5, 0) := ⟨xm242, RX10, rfl, xw_802, xw_803, xw_804, xw_623, xw_805, ⟨rfl, by decide +kernel, by decide +kernel, by decide +kernel⟩, (RX10, TX10, 51), rfl, rfl⟩
theorem xMV_117 : xP_MV vwCl xMT xR (10, 323, 248, 2, 0) := ⟨xm248, RX10, rfl, xw_806, xw_807, xw_808, xw_623, xw_809, ⟨rfl, by decide +kernel, by decide +kernel, by decide +kernel⟩, (RX10, TX10, 51), rfl, rfl⟩
theorem xMV_118 : xP_MV vwCl xMT xR (10, 331, 252, 2, 0) := ⟨xm252, RX10, rfl, xw_812, xw_813, xw_814, xw_623, xw_815, ⟨rfl, by decide +kernel, by decide +kernel, by decide +kernel⟩, (RX10, TX10, 51), rfl, rfl⟩
theorem xMV_119 : xP_MV vwCl xMT xR (10, 337, 253, 1, 0) := ⟨xm253, RX10, rfl, xw_816, xw_817, xw_818, xw_623, xw_819, ⟨rfl, by decide +kernel, by decide +kernel, by decide +kernel⟩, (RX10, TX10, 51), rfl, rfl⟩
theorem xMV_120 : xP_MV vwCl xMT xR (10, 340, 254, 1, 0) := ⟨xm254, RX10, rfl, xw_820, xw_821, xw_822, xw_623, xw_823, ⟨rfl, by decide +kernel, by decide +kernel, by decide +kernel⟩, (RX10, TX10, 51), rfl, rfl⟩
theorem xMV_121 : xP_MV vwCl xMT xR (11, 13, 8, 3, 0) := ⟨xm8, RX9, rfl, xw_836, xw_837, xw_838, xw_85, xw_839, ⟨rfl, by decide +kernel, by decide +kernel, by decide +kernel⟩, (RX9, TX9, 19), rfl, rfl⟩
theorem xMV_122 : xP_MV vwCl xMT xR (11, 17, 158, 3, 0) := ⟨xm158, RX10, rfl, xw_840, xw_841, xw_842, xw_623, xw_843, ⟨rfl, by decide +kernel, by decide +kernel, by decide +kernel⟩, (RX10, TX10, 51), rfl, rfl⟩
theorem xMV_123 : xP_MV vwCl xMT xR (11, 18, 12, 4, 0) := ⟨xm12, RX9, rfl, xw_844, xw_845, xw_846, xw_85, xw_847, ⟨rfl, by decide +kernel, by decide +kernel, by decide +kernel⟩, (RX9, TX9, 19), rfl, rfl⟩
theorem xMV_124 : xP_MV vwCl xMT xR (11, 22, 162, 4, 0) := ⟨xm162, RX10, rfl, xw_848, xw_849, xw_850, xw_623, xw_851, ⟨rfl, by decide +kernel, by decide +kernel, by decide +kernel⟩, (RX10, TX10, 51), rfl, rfl⟩
theorem xMV_125 : xP_MV vwCl xMT xR (11, 23, 16, 2, 0) := ⟨xm16, RX9, rfl, xw_852, xw_853, xw_854, xw_85, xw_855, ⟨rfl, by decide +kernel, by decide +kernel, by decide +kernel⟩, (RX9, TX9, 19), rfl, rfl⟩
theorem xMV_126 : xP_MV vwCl xMT xR (11, 27, 165, 2, 0) := ⟨xm165, RX10, rfl, xw_856, xw_857, xw_858, xw_623, xw_859, ⟨rfl, by decide +kernel, by decide +kernel, by decide +kernel⟩, (RX10, TX10, 51), rfl, rfl⟩
theorem xMV_127 : xP_MV vwCl xMT xR (11, 28, 17, 6, 0) := ⟨xm17, RX9, rfl, xw_860, xw_861, xw_862, xw_85, xw_863, ⟨rfl, by decide +kernel, by decide +kernel, by decide +kernel⟩, (RX9, TX9, 19), rfl, rfl⟩
theorem xMV_128 : xP_MV vwCl xMT xR (11, 32, 166, 6, 0) := ⟨xm166, RX10, rfl, xw_864, xw_865, xw_866, xw_623, xw_867, ⟨rfl, by decide +kernel, by decide +kernel, by decide +kernel⟩, (RX10, TX10, 51), rfl, rfl⟩
theorem xMV_129 : xP_MV vwCl xMT xR (11, 33, 18, 2, 0) := ⟨xm18, RX9, rfl, xw_868, xw_869, xw_870, xw_85, xw_871, ⟨rfl, by decide +kernel, by decide +kernel, by decide +kernel⟩, (RX9, TX9, 19), rfl, rfl⟩
theorem xMV_130 : xP_MV vwCl xMT xR (11, 36, 167, 2, 0) := ⟨xm167, RX10, rfl, xw_872, xw_873, xw_874, xw_623, xw_875, ⟨rfl, by decide +kernel, by decide +kernel, by decide +kernel⟩, (RX10, TX10, 51), rfl, rfl⟩
theorem xMV_131 : xP_MV vwCl xMT xR (11, 37, 19, 3, 0) := ⟨xm19, RX9, rfl, xw_876, xw_877, xw_878, xw_85, xw_879, ⟨rfl, by decide +kernel, by decide +kernel, by decide +kernel⟩, (RX9, TX9, 19), rfl, rfl⟩
theorem xMV_132 : xP_MV vwCl xMT xR (11, 40, 169, 3, 0) := ⟨xm169, RX10, rfl, xw_880, xw_881, xw_882, xw_623, xw_883, ⟨rfl, by decide +kernel, by decide +kernel, by decide +kernel⟩, (RX10, TX10, 51), rfl, rfl⟩
theorem xMV_133 : xP_MV vwCl xMT xR (11, 41, 21, 4, 0) := ⟨xm21, RX9, rfl, xw_884, xw_885, xw_886, xw_85, xw_887, ⟨rfl, by decide +kernel, by decide +kernel, by decide +kernel⟩, (RX9, TX9, 19), rfl, rfl⟩
theorem xMV_134 : xP_MV vwCl xMT xR (11, 44, 171, 4, 0) := ⟨xm171, RX10, rfl, xw_888, xw_889, xw_890, xw_623, xw_891, ⟨rfl, by decide +kernel, by decide +kernel, by decide +kernel⟩, (RX10, TX10, 51), rfl, rfl⟩
theorem xMV_135 : xP_MV vwCl xMT xR (11, 45, 22, 3, 0) := ⟨xm22, RX9, rfl, xw_892, xw_893, xw_894, xw_85, xw_895, ⟨rfl, by decide +kernel, by decide +kernel, by decide +kernel⟩, (RX9, TX9, 19), rfl, rfl⟩
theorem xMV_136 : xP_MV vwCl xMT xR (11, 49, 173, 3, 0) := ⟨xm173, RX10, rfl, xw_896, xw_897, xw_898, xw_623, xw_899, ⟨rfl, by decide +kernel, by decide +kernel, by decide +kernel⟩, (RX10, TX10, 51), rfl, rfl⟩
theorem xMV_137 : xP_MV vwCl xMT xR (11, 50, 28, 5, 0) := ⟨xm28, RX9, rfl, xw_900, xw_901, xw_902, xw_85, xw_903, ⟨rfl, by decide +kernel, by decide +kernel, by decide +kernel⟩, (RX9, TX9, 19), rfl, rfl⟩
theorem xMV_138 : xP_MV vwCl xMT xR (11, 54, 176, 5, 0) := ⟨xm176, RX10, rfl, xw_904, xw_905, xw_906, xw_623, xw_907, ⟨rfl, by decide +kernel, by decide +kernel, by decide +kernel⟩, (RX10, TX10, 51), rfl, rfl⟩
theorem xMV_139 : xP_MV vwCl xMT xR (11, 55, 32, 3, 0) := ⟨xm32, RX9, rfl, xw_908, xw_909, xw_910, xw_85, xw_911, ⟨rfl, by decide +kernel, by decide +kernel, by decide +kernel⟩, (RX9, TX9, 19), rfl, rfl⟩
theorem xMV_140 : xP_MV vwCl xMT xR (11, 58, 179, 3, 0) := ⟨xm179, RX10, rfl, xw_912, xw_913, xw_914, xw_623, xw_915, ⟨rfl, by decide +kernel, by decide +kernel, by decide +kernel⟩, (RX10, TX10, 51), rfl, rfl⟩
theorem xMV_141 : xP_MV vwCl xMT xR (11, 59, 34, 3, 0) := ⟨xm34, RX9, rfl, xw_916, xw_917, xw_918, xw_85, xw_919, ⟨rfl, by decide +kernel, by decide +kernel, by decide +kernel⟩, (RX9, TX9, 19), rfl, rfl⟩
theorem xMV_142 : xP_MV vwCl xMT xR (11, 62, 181, 3, 0) := ⟨xm181, RX10, rfl, xw_920, xw_921, xw_922, xw_623, xw_923, ⟨rfl, by decide +kernel, by decide +kernel, by decide +kernel⟩, (RX10, TX10, 51), rfl, rfl⟩
theorem xMV_143 : xP_MV vwCl xMT xR (11, 63, 35, 2, 0) := ⟨xm35, RX9, rfl, xw_924, xw_925, xw_926, xw_85, xw_927, ⟨rfl, by decide +kernel, by decide +kernel, by decide +kernel⟩, (RX9, TX9, 19), rfl, rfl⟩
theorem xMV_144 : xP_MV vwCl xMT xR (11, 66, 182, 2, 0) := ⟨xm182, RX10, rfl, xw_928, xw_929, xw_930, xw_623, xw_931, ⟨rfl, by decide +kernel, by decide +kernel, by decide +kernel⟩, (RX10, TX10, 51), rfl, rfl⟩
theorem xMV_145 : xP_MV vwCl xMT xR (11, 67, 36, 2, 0) := ⟨xm36, RX9, rfl, xw_932, xw_933, xw_934, xw_85, xw_935, ⟨rfl, by decide +kernel, by decide +kernel, by decide +kernel⟩, (RX9, TX9, 19), rfl, rfl⟩
theorem xMV_146 : xP_MV vwCl xMT xR (11, 70, 183, 2, 0) := ⟨xm183, RX10, rfl, xw_936, xw_937, xw_938, xw_623, xw_939, ⟨rfl, by decide +kernel, by decide +kernel, by decide +kernel⟩, (RX10, TX10, 51), rfl, rfl⟩
theorem xMV_147 : xP_MV vwCl xMT xR (11, 71, 37, 5, 0) := ⟨xm37, RX9, rfl, xw_940, xw_941, xw_942, xw_85, xw_943, ⟨rfl, by decide +kernel, by decide +kernel, by decide +kernel⟩, (RX9, TX9, 19), rfl, rfl⟩
theorem xMV_148 : xP_MV vwCl xMT xR (11, 74, 187, 5, 0) := ⟨xm187, RX10, rfl, xw_944, xw_945, xw_946, xw_623, xw_947, ⟨rfl, by decide +kernel, by decide +kernel, by decide +kernel⟩, (RX10, TX10, 51), rfl, rfl⟩
theorem xMV_149 : xP_MV vwCl xMT xR (11, 75, 41, 3, 0) := ⟨xm41, RX9, rfl, xw_948, xw_949, xw_950, xw_85, xw_951, ⟨rfl, by decide +kernel, by decide +kernel, by decide +kernel⟩, (RX9, TX9, 19), rfl, rfl⟩
theorem xMV_150 : xP_MV vwCl xMT xR (11, 78, 189, 3, 0) := ⟨xm189, RX10, rfl, xw_952, xw_953, xw_954, xw_623, xw_955, ⟨rfl, by decide +kernel, by decide +kernel, by decide +kernel⟩, (RX10, TX10, 51), rfl, rfl⟩
theorem xMV_151 : xP_MV vwCl xMT xR (11, 79, 45, 3, 0) := ⟨xm45, RX9, rfl, xw_956, xw_957, xw_958, xw_85, xw_959, ⟨rfl, by decide +kernel, by decide +kernel, by decide +kernel⟩, (RX9, TX9, 19), rfl, rfl⟩
theorem xMV_152 : xP_MV vwCl xMT xR (11, 82, 194, 3, 0) := ⟨xm194, RX10, rfl, xw_960, xw_961, xw_962, xw_623, xw_963, ⟨rfl, by decide +kernel, by decide +kernel, by decide +kernel⟩, (RX10, TX10, 51), rfl, rfl⟩
theorem xMV_153 : xP_MV vwCl xMT xR (11, 83, 47, 2, 0) := ⟨xm47, RX9, rfl, xw_964, xw_965, xw_966, xw_85, xw_967, ⟨rfl, by decide +kernel, by decide +kernel, by decide +kernel⟩, (RX9, TX9, 19), rfl, rfl⟩
theorem xMV_154 : xP_MV vwCl xMT xR (11, 86, 195, 2, 0) := ⟨xm195, RX10, rfl, xw_968, xw_969, xw_970, xw_623, xw_971, ⟨rfl, by decide +kernel, by decide +kernel, by decide +kernel⟩, (RX10, TX10, 51), rfl, rfl⟩
theorem xMV_155 : xP_MV vwCl xMT xR (11, 87, 49, 3, 0) := ⟨xm49, RX9, rfl, xw_972, xw_973, xw_974, xw_85, xw_975, ⟨rfl, by decide +kernel, by decide +kernel, by decide +kernel⟩, (RX9, TX9, 19), rfl, rfl⟩
theorem xMV_156 : xP_MV vwCl xMT xR (11, 90, 196, 3, 0) := ⟨xm196, RX10, rfl, xw_976, xw_977, xw_978, xw_623, xw_979, ⟨rfl, by decide +kernel, by decide +kernel, by decide +kernel⟩, (RX10, TX10, 51), rfl, rfl⟩
theorem xMV_157 : xP_MV vwCl xMT xR (11, 91, 51, 1, 0) := ⟨xm51, RX9, rfl, xw_980, xw_981, xw_982, xw_85, xw_983, ⟨rfl, by decide +kernel, by decide +kernel, by decide +kernel⟩, (RX9, TX9, 19), rfl, rfl⟩
theorem xMV_158 : xP_MV vwCl xMT xR (11, 95, 198, 1, 0) := ⟨xm198, RX10, rfl, xw_984, xw_985, xw_986, xw_623, xw_987, ⟨rfl, by decide +kernel, by decide +kernel, by decide +kernel⟩, (RX10, TX10, 51), rfl, rfl⟩
theorem xMV_159 : xP_MV vwCl xMT xR (11, 96, 72, 2, 0) := ⟨xm72, RX9, rfl, xw_988, xw_989, xw_990, xw_85, xw_991, ⟨rfl, by decide +kernel, by decide +kernel, by decide +kernel⟩, (RX9, TX9, 19), rfl, rfl⟩
theorem xMV_160 : xP_MV vwCl xMT xR (11, 99, 207, 2, 0) := ⟨xm207, RX10, rfl, xw_992, xw_993, xw_994, xw_623, xw_995, ⟨rfl, by decide +kernel, by decide +kernel, by decide +kernel⟩, (RX10, TX10, 51), rfl, rfl⟩
theorem xMV_161 : xP_MV vwCl xMT xR (11, 100, 74, 3, 0) := ⟨xm74, RX9, rfl, xw_996, xw_997, xw_998, xw_85, xw_999, ⟨rfl, by decide +kernel, by decide +kernel, by decide +kernel⟩, (RX9, TX9, 19), rfl, rfl⟩
theorem xMV_162 : xP_MV vwCl xMT xR (11, 103, 208, 3, 0) := ⟨xm208, RX10, rfl, xw_1000, xw_1001, xw_1002, xw_623, xw_1003, ⟨rfl, by decide +kernel, by decide +kernel, by decide +kernel⟩, (RX10, TX10, 51), rfl, rfl⟩
theorem xMV_163 : xP_MV vwCl xMT xR (11, 104, 76, 2, 0) := ⟨xm76, RX9, rfl, xw_1004, xw_1005, xw_1006, xw_85, xw_1007, ⟨rfl, by decide +kernel, by decide +kernel, by decide +kernel⟩, (RX9, TX9, 19), rfl, rfl⟩
theorem xMV_164 : xP_MV vwCl xMT xR (11, 107, 211, 2, 0) := ⟨xm211, RX10, rfl, xw_1008, xw_1009, xw_1010, xw_623, xw_1011, ⟨rfl, by decide +kernel, by decide +kernel, by decide +kernel⟩, (RX10, TX10, 51), rfl, rfl⟩
theorem xMV_165 : xP_MV vwCl xMT xR (11, 108, 78, 2, 0) := ⟨xm78, RX9, rfl, xw_1012, xw_1013, xw_1014, xw_85, xw_1015, ⟨rfl, by decide +kernel, by decide +kernel, by decide +kernel⟩, (RX9, TX9, 19), rfl, rfl⟩
theorem xMV_166 : xP_MV vwCl xMT xR (11, 111, 212, 2, 0) := ⟨xm212, RX10, rfl, xw_1016, xw_1017, xw_1018, xw_623, xw_1019, ⟨rfl, by decide +kernel, by decide +kernel, by decide +kernel⟩, (RX10, TX10, 51), rfl, rfl⟩
theorem xMV_167 : xP_MV vwCl xMT xR (11, 112, 79, 3, 0) := ⟨xm79, RX9, rfl, xw_1020, xw_1021, xw_1022, xw_85, xw_1023, ⟨rfl, by decide +kernel, by decide +kernel, by decide +kernel⟩, (RX9, TX9, 19), rfl, rfl⟩
theorem xMV_168 : xP_MV vwCl xMT xR (11, 115, 184, 3, 0) := ⟨xm184, RX10, rfl, xw_1024, xw_1025, xw_1026, xw_623, xw_1027, ⟨rfl, by decide +kernel, by decide +kernel, by decide +kernel⟩, (RX10, TX10, 51), rfl, rfl⟩
theorem xMV_169 : xP_MV vwCl xMT xR (11, 116, 82, 4, 0) := ⟨xm82, RX9, rfl, xw_1028, xw_1029, xw_1030, xw_85, xw_1031, ⟨rfl, by decide +kernel, by decide +kernel, by decide +kernel⟩, (RX9, TX9, 19), rfl, rfl⟩
theorem xMV_170 : xP_MV vwCl xMT xR (11, 119, 213, 4, 0) := ⟨xm213, RX10, rfl, xw_1032, xw_1033, xw_1034, xw_623, xw_1035, ⟨rfl, by decide +kernel, by decide +kernel, by decide +kernel⟩, (RX10, TX10, 51), rfl, rfl⟩
theorem xMV_171 : xP_MV vwCl xMT xR (11, 120, 87, 3, 0) := ⟨xm87, RX9, rfl, xw_1036, xw_1037, xw_1038, xw_85, xw_1039, ⟨rfl, by decide +kernel, by decide +kernel, by decide +kernel⟩, (RX9, TX9, 19), rfl, rfl⟩
theorem xMV_172 : xP_MV vwCl xMT xR (11, 123, 215, 3, 0) := ⟨xm215, RX10, rfl, xw_1040, xw_1041, xw_1042, xw_623, xw_1043, ⟨rfl, by decide +kernel, by decide +kernel, by decide +kernel⟩, (RX10, TX10, 51), rfl, rfl⟩
theorem xMV_173 : xP_MV vwCl xMT xR (11, 124, 90, 3, 0) := ⟨xm90, RX9, rfl, xw_1044, xw_1045, xw_1046, xw_85, xw_1047, ⟨rfl, by decide +kernel, by decide +kernel, by decide +kernel⟩, (RX9, TX9, 19), rfl, rfl⟩
theorem xMV_174 : xP_MV vwCl xMT xR (11, 127, 218, 3, 0) := ⟨xm218, RX10, rfl, xw_1048, xw_1049, xw_1050, xw_623, xw_1051, ⟨rfl, by decide +kernel, by decide +kernel, by decide +kernel⟩, (RX10, TX10, 51), rfl, rfl⟩
theorem xMV_175 : xP_MV vwCl xMT xR (11, 128, 93, 3, 0) := ⟨xm93, RX9, rfl, xw_1052, xw_1053, xw_1054, xw_85, xw_1055, ⟨rfl, by decide +kernel, by decide +kernel, by decide +kernel⟩, (RX9, TX9, 19), rfl, rfl⟩
theorem xMV_176 : xP_MV vwCl xMT xR (11, 131, 219, 3, 0) := ⟨xm219, RX10, rfl, xw_1056, xw_1057, xw_1058, xw_623, xw_1059, ⟨rfl, by decide +kernel, by decide +kernel, by decide +kernel⟩, (RX10, TX10, 51), rfl, rfl⟩
theorem xMV_177 : xP_MV vwCl xMT xR (11, 132, 94, 5, 0) := ⟨xm94, RX9, rfl, xw_1060, xw_1061, xw_1062, xw_85, xw_1063, ⟨rfl, by decide +kernel, by decide +kernel, by decide +kernel⟩, (RX9, TX9, 19), rfl, rfl⟩
theorem xMV_178 : xP_MV vwCl xMT xR (11, 135, 220, 5, 0) := ⟨xm220, RX10, rfl, xw_1064, xw_1065, xw_1066, xw_623, xw_1067, ⟨rfl, by decide +kernel, by decide +kernel, by decide +kernel⟩, (RX10, TX10, 51), rfl, rfl⟩
theorem xMV_179 : xP_MV vwCl xMT xR (11, 136, 100, 4, 0) := ⟨xm100, RX9, rfl, xw_1068, xw_1069, xw_1070, xw_85, xw_1071, ⟨rfl, by decide +kernel, by decide +kernel, by decide +kernel⟩, (RX9, TX9, 19), rfl, rfl⟩
theorem xMV_180 : xP_MV vwCl xMT xR (11, 139, 224, 4, 0) := ⟨xm224, RX10, rfl, xw_1072, xw_1073, xw_1074, xw_623, xw_1075, ⟨rfl, by decide +kernel, by decide +kernel, by decide +kernel⟩, (RX10, TX10, 51), rfl, rfl⟩
theorem xMV_181 : xP_MV vwCl xMT xR (11, 140, 103, 2, 0) := ⟨xm103, RX9, rfl, xw_1076, xw_1077, xw_1078, xw_85, xw_1079, ⟨rfl, by decide +kernel, by decide +kernel, by decide +kernel⟩, (RX9, TX9, 19), rfl, rfl⟩
theorem xMV_182 : xP_MV vwCl xMT xR (11, 143, 225, 2, 0) := ⟨xm225, RX10, rfl, xw_1080, xw_1081, xw_1082, xw_623, xw_1083, ⟨rfl, by decide +kernel, by decide +kernel, by decide +kernel⟩, (RX10, TX10, 51), rfl, rfl⟩
theorem xMV_183 : xP_MV vwCl xMT xR (11, 144, 108, 3, 0) := ⟨xm108, RX9, rfl, xw_1084, xw_1085, xw_1086, xw_85, xw_1087, ⟨rfl, by decide +kernel, by decide +kernel, by decide +kernel⟩, (RX9, TX9, 19), rfl, rfl⟩
theorem xMV_184 : xP_MV vwCl xMT xR (11, 147, 228, 3, 0) := ⟨xm228, RX10, rfl, xw_1088, xw_1089, xw_1090, xw_623, xw_1091, ⟨rfl, by decide +kernel, by decide +kernel, by decide +kernel⟩, (RX10, TX10, 51), rfl, rfl⟩
theorem xMV_185 : xP_MV vwCl xMT xR (11, 148, 109, 3, 0) := ⟨xm109, RX9, rfl, xw_1092, xw_1093, xw_1094, xw_85, xw_1095, ⟨rfl, by decide +kernel, by decide +kernel, by decide +kernel⟩, (RX9, TX9, 19), rfl, rfl⟩
theorem xMV_186 : xP_MV vwCl xMT xR (11, 151, 229, 3, 0) := ⟨xm229, RX10, rfl, xw_1096, xw_1097, xw_1098, xw_623, xw_1099, ⟨rfl, by decide +kernel, by decide +kernel, by decide +kernel⟩, (RX10, TX10, 51), rfl, rfl⟩
theorem xMV_187 : xP_MV vwCl xMT xR (11, 152, 110, 2, 0) := ⟨xm110, RX9, rfl, xw_1100, xw_1101, xw_1102, xw_85, xw_1103, ⟨rfl, by decide +kernel, by decide +kernel, by decide +kernel⟩, (RX9, TX9, 19), rfl, rfl⟩
theorem xMV_188 : xP_MV vwCl xMT xR (11, 155, 230, 2, 0) := ⟨xm230, RX10, rfl, xw_1104, xw_1105, xw_1106, xw_623, xw_1107, ⟨rfl, by decide +kernel, by decide +kernel, by decide +kernel⟩, (RX10, TX10, 51), rfl, rfl⟩
theorem xMV_189 : xP_MV vwCl xMT xR (11, 156, 112, 4, 0) := ⟨xm112, RX9, rfl, xw_1108, xw_1109, xw_1110, xw_85, xw_1111, ⟨rfl, by decide +kernel, by decide +kernel, by decide +kernel⟩, (RX9, TX9, 19), rfl, rfl⟩
theorem xMV_190 : xP_MV vwCl xMT xR (11, 159, 231, 4, 0) := ⟨xm231, RX10, rfl, xw_1112, xw_1113, xw_1114, xw_623, xw_1115, ⟨rfl, by decide +kernel, by decide +kernel, by decide +kernel⟩, (RX10, TX10, 51), rfl, rfl⟩
theorem xMV_191 : xP_MV vwCl xMT xR (11, 160, 115, 2, 0) := ⟨xm115, RX9, rfl, xw_1116, xw_1117, xw_1118, xw_85, xw_1119, ⟨rfl, by decide +kernel, by decide +kernel, by decide +kernel⟩, (RX9, TX9, 19), rfl, rfl⟩
theorem xMV_192 : xP_MV vwCl xMT xR (11, 163, 234, 2, 0) := ⟨xm234, RX10, rfl, xw_1120, xw_1121, xw_1122, xw_623, xw_1123, ⟨rfl, by decide +kernel, by decide +kernel, by decide +kernel⟩, (RX10, TX10, 51), rfl, rfl⟩
theorem xMV_193 : xP_MV vwCl xMT xR (11, 164, 116, 3, 0) := ⟨xm116, RX9, rfl, xw_1124, xw_1125, xw_1126, xw_85, xw_1127, ⟨rfl, by decide +kernel, by decide +kernel, by decide +kernel⟩, (RX9, TX9, 19), rfl, rfl⟩
theorem xMV_194 : xP_MV vwCl xMT xR (11, 167, 235, 3, 0) := ⟨xm235, RX10, rfl, xw_1128, xw_1129, xw_1130, xw_623, xw_1131, ⟨rfl, by decide +kernel, by decide +kernel, by decide +kernel⟩, (RX10, TX10, 51), rfl, rfl⟩
theorem xMV_195 : xP_MV vwCl xMT xR (11, 168, 128, 3, 0) := ⟨xm128, RX9, rfl, xw_1132, xw_1133, xw_1134, xw_85, xw_1135, ⟨rfl, by decide +kernel, by decide +kernel, by decide +kernel⟩, (RX9, TX9, 19), rfl, rfl⟩
theorem xMV_196 : xP_MV vwCl xMT xR (11, 171, 238, 3, 0) := ⟨xm238, RX10, rfl, xw_1136, xw_1137, xw_1138, xw_623, xw_1139, ⟨rfl, by decide +kernel, by decide +kernel, by decide +kernel⟩, (RX10, TX10, 51), rfl, rfl⟩
theorem xMV_197 : xP_MV vwCl xMT xR (11, 172, 135, 4, 0) := ⟨xm135, RX9, rfl, xw_1140, xw_1141, xw_1142, xw_85, xw_1143, ⟨rfl, by decide +kernel, by decide +kernel, by decide +kernel⟩, (RX9, TX9, 19), rfl, rfl⟩
theorem xMV_198 : xP_MV vwCl xMT xR (11, 175, 241, 4, 0) := ⟨xm241, RX10, rfl, xw_1144, xw_1145, xw_1146, xw_623, xw_1147, ⟨rfl, by decide +kernel, by decide +kernel, by decide +kernel⟩, (RX10, TX10, 51), rfl, rfl⟩
theorem xMV_199 : xP_MV vwCl xMT xR (11, 176, 142, 1, 0) := ⟨xm142, RX9, rfl, xw_1148, xw_1149, xw_1150, xw_85, xw_1151, ⟨rfl, by decide +kernel, by decide +kernel, by decide +kernel⟩, (RX9, TX9, 19), rfl, rfl⟩
theorem xMV_200 : xP_MV vwCl xMT xR (11, 179, 243, 1, 0) := ⟨xm243, RX10, rfl, xw_1152, xw_1153, xw_1154, xw_623, xw_1155, ⟨rfl, by decide +kernel, by decide +kernel, by decide +kernel⟩, (RX10, TX10, 51), rfl, rfl⟩
theorem xMV_201 : xP_MV vwCl xMT xR (11, 180, 143, 1, 0) := ⟨xm143, RX9, rfl, xw_1156, xw_1157, xw_1158, xw_85, xw_1159, ⟨rfl, by decide +kernel, by decide +kernel, by decide +kernel⟩, (RX9, TX9, 19), rfl, rfl⟩
theorem xMV_202 : xP_MV vwCl xMT xR (11, 184, 244, 1, 0) := ⟨xm244, RX10, rfl, xw_1160, xw_1161, xw_1162, xw_623, xw_1163, ⟨rfl, by decide +kernel, by decide +kernel, by decide +kernel⟩, (RX10, TX10, 51), rfl, rfl⟩
theorem xMV_203 : xP_MV vwCl xMT xR (11, 185, 144, 1, 0) := ⟨xm144, RX9, rfl, xw_1164, xw_1165, xw_1166, xw_85, xw_1167, ⟨rfl, by decide +kernel, by decide +kernel, by decide +kernel⟩, (RX9, TX9, 19), rfl, rfl⟩
theorem xMV_204 : xP_MV vwCl xMT xR (11, 188, 245, 1, 0) := ⟨xm245, RX10, rfl, xw_1168, xw_1169, xw_1170, xw_623, xw_1171, ⟨rfl, by decide +kernel, by decide +kernel, by decide +kernel⟩, (RX10, TX10, 51), rfl, rfl⟩
theorem xMV_205 : xP_MV vwCl xMT xR (11, 189, 145, 1, 0) := ⟨xm145, RX9, rfl, xw_1172, xw_1173, xw_1174, xw_85, xw_1175, ⟨rfl, by decide +kernel, by decide +kernel, by decide +kernel⟩, (RX9, TX9, 19), rfl, rfl⟩
theorem xMV_206 : xP_MV vwCl xMT xR (11, 192, 246, 1, 0) := ⟨xm246, RX10, rfl, xw_1176, xw_1177, xw_1178, xw_623, xw_1179, ⟨rfl, by decide +kernel, by decide +kernel, by decide +kernel⟩, (RX10, TX10, 51), rfl, rfl⟩
theorem xMV_207 : xP_MV vwCl xMT xR (11, 193, 146, 2, 0) := ⟨xm146, RX9, rfl, xw_1180, xw_560, xw_561, xw_85, xw_562, ⟨rfl, by decide +kernel, by decide +kernel, by decide +kernel⟩, (RX9, TX9, 19), rfl, rfl⟩
theorem xMV_208 : xP_MV vwCl xMT xR (11, 196, 247, 2, 0) := ⟨xm247, RX10, rfl, xw_1181, xw_1182, xw_1183, xw_623, xw_1184, ⟨rfl, by decide +kernel, by decide +kernel, by decide +kernel⟩, (RX10, TX10, 51), rfl, rfl⟩
theorem xMV_209 : xP_MV vwCl xMT xR (11, 197, 150, 1, 0) := ⟨xm150, RX9, rfl, xw_1185, xw_1186, xw_1187, xw_85, xw_1188, ⟨rfl, by decide +kernel, by decide +kernel, by decide +kernel⟩, (RX9, TX9, 19), rfl, rfl⟩
theorem xMV_210 : xP_MV vwCl xMT xR (11, 200, 249, 1, 0) := ⟨xm249, RX10, rfl, xw_1189, xw_1190, xw_1191, xw_623, xw_1192, ⟨rfl, by decide +kernel, by decide +kernel, by decide +kernel⟩, (RX10, TX10, 51), rfl, rfl⟩
theorem xMV_211 : xP_MV vwCl xMT xR (11, 201, 151, 2, 0) := ⟨xm151, RX9, rfl, xw_1193, xw_1194, xw_1195, xw_85, xw_1196, ⟨rfl, by decide +kernel, by decide +kernel, by decide +kernel⟩, (RX9, TX9, 19), rfl, rfl⟩
theorem xMV_212 : xP_MV vwCl xMT xR (11, 204, 250, 2, 0) := ⟨xm250, RX10, rfl, xw_1197, xw_1198, xw_1199, xw_623, xw_1200, ⟨rfl, by decide +kernel, by decide +kernel, by decide +kernel⟩, (RX10, TX10, 51), rfl, rfl⟩
theorem xMV_213 : xP_MV vwCl xMT xR (11, 205, 152, 1, 0) := ⟨xm152, RX9, rfl, xw_1201, xw_1202, xw_1203, xw_85, xw_1204, ⟨rfl, by decide +kernel, by decide +kernel, by decide +kernel⟩, (RX9, TX9, 19), rfl, rfl⟩
theorem xMV_214 : xP_MV vwCl xMT xR (11, 208, 251, 1, 0) := ⟨xm251, RX10, rfl, xw_1205, xw_1206, xw_1207, xw_623, xw_1208, ⟨rfl, by decide +kernel, by decide +kernel, by decide +kernel⟩, (RX10, TX10, 51), rfl, rfl⟩
set_option maxRecDepth 100000 in
theorem xMV_ok : ∀ q ∈ xMV, xP_MV vwCl xMT xR q := List.forall_mem_cons.mpr ⟨xMV_0, List.forall_mem_cons.mpr ⟨xMV_1, List.forall_mem_cons.mpr ⟨xMV_2, List.forall_mem_cons.mpr ⟨xMV_3, List.forall_mem_cons.mpr ⟨xMV_4, List.forall_mem_cons.mpr ⟨xMV_5, List.forall_mem_cons.mpr ⟨xMV_6, List.forall_mem_cons.mpr ⟨xMV_7, List.forall_mem_cons.mpr ⟨xMV_8, List.forall_mem_cons.mpr ⟨xMV_9, List.forall_mem_cons.mpr ⟨xMV_10, List.forall_mem_cons.mpr ⟨xMV_11, List.forall_mem_cons.mpr ⟨xMV_12, List.forall_mem_cons.mpr ⟨xMV_13, List.forall_mem_cons.mpr ⟨xMV_14, List.forall_mem_cons.mpr ⟨xMV_15, List.forall_mem_cons.mpr ⟨xMV_16, List.forall_mem_cons.mpr ⟨xMV_17, List.forall_mem_cons.mpr ⟨xMV_18, List.forall_mem_cons.mpr ⟨xMV_19, List.forall_mem_cons.mpr ⟨xMV_20, List.forall_mem_cons.mpr ⟨xMV_21, List.forall_mem_cons.mpr ⟨xMV_22, List.forall_mem_cons.mpr ⟨xMV_23, List.forall_mem_cons.mpr ⟨xMV_24, List.forall_mem_cons.mpr ⟨xMV_25, List.forall_mem_cons.mpr ⟨xMV_26, List.forall_mem_cons.mpr ⟨xMV_27, List.forall_mem_cons.mpr ⟨xMV_28, List.forall_mem_cons.mpr ⟨xMV_29, List.forall_mem_cons.mpr ⟨xMV_30, List.forall_mem_cons.mpr ⟨xMV_31, List.forall_mem_cons.mpr ⟨xMV_32, List.forall_mem_cons.mpr ⟨xMV_33, List.forall_mem_cons.mpr ⟨xMV_34, List.forall_mem_cons.mpr ⟨xMV_35, List.forall_mem_cons.mpr ⟨xMV_36, List.forall_mem_cons.mpr ⟨xMV_37, List.forall_mem_cons.mpr ⟨xMV_38, List.forall_mem_cons.mpr ⟨xMV_39, List.forall_mem_cons.mpr ⟨xMV_40, List.forall_mem_cons.mpr ⟨xMV_41, List.forall_mem_cons.mpr ⟨xMV_42, List.forall_mem_cons.mpr ⟨xMV_43, List.forall_mem_cons.mpr ⟨xMV_44, List.forall_mem_cons.mpr ⟨xMV_45, List.forall_mem_cons.mpr ⟨xMV_46, List.forall_mem_cons.mpr ⟨xMV_47, List.forall_mem_cons.mpr ⟨xMV_48, List.forall_mem_cons.mpr ⟨xMV_49, List.forall_mem_cons.mpr ⟨xMV_50, List.forall_mem_cons.mpr ⟨xMV_51, List.forall_mem_cons.mpr ⟨xMV_52, List.forall_mem_cons.mpr ⟨xMV_53, List.forall_mem_cons.mpr ⟨xMV_54, List.forall_mem_cons.mpr ⟨xMV_55, List.forall_mem_cons.mpr ⟨xMV_56, List.forall_mem_cons.mpr ⟨xMV_57, List.forall_mem_cons.mpr ⟨xMV_58, List.forall_mem_cons.mpr ⟨xMV_59, List.forall_mem_cons.mpr ⟨xMV_60, List.forall_mem_cons.mpr ⟨xMV_61, List.forall_mem_cons.mpr ⟨xMV_62, List.forall_mem_cons.mpr ⟨xMV_63, List.forall_mem_cons.mpr ⟨xMV_64, List.forall_mem_cons.mpr ⟨xMV_65, List.forall_mem_cons.mpr ⟨xMV_66, List.forall_mem_cons.mpr ⟨xMV_67, List.forall_mem_cons.mpr ⟨xMV_68, List.forall_mem_cons.mpr ⟨xMV_69, List.forall_mem_cons.mpr ⟨xMV_70, List.forall_mem_cons.mpr ⟨xMV_71, List.forall_mem_cons.mpr ⟨xMV_72, List.forall_mem_cons.mpr ⟨xMV_73, List.forall_mem_cons.mpr ⟨xMV_74, List.forall_mem_cons.mpr ⟨xMV_75, List.forall_mem_cons.mpr ⟨xMV_76, List.forall_mem_cons.mpr ⟨xMV_77, List.forall_mem_cons.mpr ⟨xMV_78, List.forall_mem_cons.mpr ⟨xMV_79, List.forall_mem_cons.mpr ⟨xMV_80, List.forall_mem_cons.mpr ⟨xMV_81, List.forall_mem_cons.mpr ⟨xMV_82, List.forall_mem_cons.mpr ⟨xMV_83, List.forall_mem_cons.mpr ⟨xMV_84, List.forall_mem_cons.mpr ⟨xMV_85, List.forall_mem_cons.mpr ⟨xMV_86, List.forall_mem_cons.mpr ⟨xMV_87, List.forall_mem_cons.mpr ⟨xMV_88, List.forall_mem_cons.mpr ⟨xMV_89, List.forall_mem_cons.mpr ⟨xMV_90, List.forall_mem_cons.mpr ⟨xMV_91, List.forall_mem_cons.mpr ⟨xMV_92, List.forall_mem_cons.mpr ⟨xMV_93, List.forall_mem_cons.mpr ⟨xMV_94, List.forall_mem_cons.mpr ⟨xMV_95, List.forall_mem_cons.mpr ⟨xMV_96, List.forall_mem_cons.mpr ⟨xMV_97, List.forall_mem_cons.mpr ⟨xMV_98, List.forall_mem_cons.mpr ⟨xMV_99, List.forall_mem_cons.mpr ⟨xMV_100, List.forall_mem_cons.mpr ⟨xMV_101, List.forall_mem_cons.mpr ⟨xMV_102, List.forall_mem_cons.mpr ⟨xMV_103, List.forall_mem_cons.mpr ⟨xMV_104, List.forall_mem_cons.mpr ⟨xMV_105, List.forall_mem_cons.mpr ⟨xMV_106, List.forall_mem_cons.mpr ⟨xMV_107, List.forall_mem_cons.mpr ⟨xMV_108, List.forall_mem_cons.mpr ⟨xMV_109, List.forall_mem_cons.mpr ⟨xMV_110, List.forall_mem_cons.mpr ⟨xMV_111, List.forall_mem_cons.mpr ⟨xMV_112, List.forall_mem_cons.mpr ⟨xMV_113, List.forall_mem_cons.mpr ⟨xMV_114, List.forall_mem_cons.mpr ⟨xMV_115, List.forall_mem_cons.mpr ⟨xMV_116, List.forall_mem_cons.mpr ⟨xMV_117, List.forall_mem_cons.mpr ⟨xMV_118, List.forall_mem_cons.mpr ⟨xMV_119, List.forall_mem_cons.mpr ⟨xMV_120, List.forall_mem_cons.mpr ⟨xMV_121, List.forall_mem_cons.mpr ⟨xMV_122, List.forall_mem_cons.mpr ⟨xMV_123, List.forall_mem_cons.mpr ⟨xMV_124, List.forall_mem_cons.mpr ⟨xMV_125, List.forall_mem_cons.mpr ⟨xMV_126, List.forall_mem_cons.mpr ⟨xMV_127, List.forall_mem_cons.mpr ⟨xMV_128, List.forall_mem_cons.mpr ⟨xMV_129, List.forall_mem_cons.mpr ⟨xMV_130, List.forall_mem_cons.mpr ⟨xMV_131, List.forall_mem_cons.mpr ⟨xMV_132, List.forall_mem_cons.mpr ⟨xMV_133, List.forall_mem_cons.mpr ⟨xMV_134, List.forall_mem_cons.mpr ⟨xMV_135, List.forall_mem_cons.mpr ⟨xMV_136, List.forall_mem_cons.mpr ⟨xMV_137, List.forall_mem_cons.mpr ⟨xMV_138, List.forall_mem_cons.mpr ⟨xMV_139, List.forall_mem_cons.mpr ⟨xMV_140, List.forall_mem_cons.mpr ⟨xMV_141, List.forall_mem_cons.mpr ⟨xMV_142, List.forall_mem_cons.mpr ⟨xMV_143, List.forall_mem_cons.mpr ⟨xMV_144, List.forall_mem_cons.mpr ⟨xMV_145, List.forall_mem_cons.mpr ⟨xMV_146, List.forall_mem_cons.mpr ⟨xMV_147, List.forall_mem_cons.mpr ⟨xMV_148, List.forall_mem_cons.mpr ⟨xMV_149, List.forall_mem_cons.mpr ⟨xMV_150, List.forall_mem_cons.mpr ⟨xMV_151, List.forall_mem_cons.mpr ⟨xMV_152, List.forall_mem_cons.mpr ⟨xMV_153, List.forall_mem_cons.mpr ⟨xMV_154, List.forall_mem_cons.mpr ⟨xMV_155, List.forall_mem_cons.mpr ⟨xMV_156, List.forall_mem_cons.mpr ⟨xMV_157, List.forall_mem_cons.mpr ⟨xMV_158, List.forall_mem_cons.mpr ⟨xMV_159, List.forall_mem_cons.mpr ⟨xMV_160, List.forall_mem_cons.mpr ⟨xMV_161, List.forall_mem_cons.mpr ⟨xMV_162, List.forall_mem_cons.mpr ⟨xMV_163, List.forall_mem_cons.mpr ⟨xMV_164, List.forall_mem_cons.mpr ⟨xMV_165, List.forall_mem_cons.mpr ⟨xMV_166, List.forall_mem_cons.mpr ⟨xMV_167, List.forall_mem_cons.mpr ⟨xMV_168, List.forall_mem_cons.mpr ⟨xMV_169, List.forall_mem_cons.mpr ⟨xMV_170, List.forall_mem_cons.mpr ⟨xMV_171, List.forall_mem_cons.mpr ⟨xMV_172, List.forall_mem_cons.mpr ⟨xMV_173, List.forall_mem_cons.mpr ⟨xMV_174, List.forall_mem_cons.mpr ⟨xMV_175, List.forall_mem_cons.mpr ⟨xMV_176, List.forall_mem_cons.mpr ⟨xMV_177, List.forall_mem_cons.mpr ⟨xMV_178, List.forall_mem_cons.mpr ⟨xMV_179, List.forall_mem_cons.mpr ⟨xMV_180, List.forall_mem_cons.mpr ⟨xMV_181, List.forall_mem_cons.mpr ⟨xMV_182, List.forall_mem_cons.mpr ⟨xMV_183, List.forall_mem_cons.mpr ⟨xMV_184, List.forall_mem_cons.mpr ⟨xMV_185, List.forall_mem_cons.mpr ⟨xMV_186, List.forall_mem_cons.mpr ⟨xMV_187, List.forall_mem_cons.mpr ⟨xMV_188, List.forall_mem_cons.mpr ⟨xMV_189, List.forall_mem_cons.mpr ⟨xMV_190, List.forall_mem_cons.mpr ⟨xMV_191, List.forall_mem_cons.mpr ⟨xMV_192, List.forall_mem_cons.mpr ⟨xMV_193, List.forall_mem_cons.mpr ⟨xMV_194, List.forall_mem_cons.mpr ⟨xMV_195, List.forall_mem_cons.mpr ⟨xMV_196, List.forall_mem_cons.mpr ⟨xMV_197, List.forall_mem_cons.mpr ⟨xMV_198, List.forall_mem_cons.mpr ⟨xMV_199, List.forall_mem_cons.mpr ⟨xMV_200, List.forall_mem_cons.mpr ⟨xMV_201, List.forall_mem_cons.mpr ⟨xMV_202, List.forall_mem_cons.mpr ⟨xMV_203, List.forall_mem_cons.mpr ⟨xMV_204, List.forall_mem_cons.mpr ⟨xMV_205, List.forall_mem_cons.mpr ⟨xMV_206, List.forall_mem_cons.mpr ⟨xMV_207, List.forall_mem_cons.mpr ⟨xMV_208, List.forall_mem_cons.mpr ⟨xMV_209, List.forall_mem_cons.mpr ⟨xMV_210, List.forall_mem_cons.mpr ⟨xMV_211, List.forall_mem_cons.mpr ⟨xMV_212, List.forall_mem_cons.mpr ⟨xMV_213, List.forall_mem_cons.mpr ⟨xMV_214, fun _ h => absurd h List.not_mem_nil⟩⟩⟩⟩⟩⟩⟩⟩⟩⟩⟩⟩⟩⟩⟩⟩⟩⟩⟩⟩⟩⟩⟩⟩⟩⟩⟩⟩⟩⟩⟩⟩⟩⟩⟩⟩⟩⟩⟩⟩⟩⟩⟩⟩⟩⟩⟩⟩⟩⟩⟩⟩⟩⟩⟩⟩⟩⟩⟩⟩⟩⟩⟩⟩⟩⟩⟩⟩⟩⟩⟩⟩⟩⟩⟩⟩⟩⟩⟩⟩⟩⟩⟩⟩⟩⟩⟩⟩⟩⟩⟩⟩⟩⟩⟩⟩⟩⟩⟩⟩⟩⟩⟩⟩⟩⟩⟩⟩⟩⟩⟩⟩⟩⟩⟩⟩⟩⟩⟩⟩⟩⟩⟩⟩⟩⟩⟩⟩⟩⟩⟩⟩⟩⟩⟩⟩⟩⟩⟩⟩⟩⟩⟩⟩⟩⟩⟩⟩⟩⟩⟩⟩⟩⟩⟩⟩⟩⟩⟩⟩⟩⟩⟩⟩⟩⟩⟩⟩⟩⟩⟩⟩⟩⟩⟩⟩⟩⟩⟩⟩⟩⟩⟩⟩⟩⟩⟩⟩⟩⟩⟩⟩⟩⟩⟩⟩⟩⟩⟩⟩⟩⟩⟩⟩⟩⟩⟩⟩⟩⟩⟩⟩⟩⟩⟩
theorem xMS_0 : xP_MS xMT xNW xR (9, 116, 23, 1, 0) := Or.inr (Or.inr (Or.inr ⟨by decide, xm23, rfl, Or.inl xw_115, xw_116, xw_85, xw_117, ⟨by decide +kernel, by decide +kernel, by decide +kernel⟩⟩))
theorem xMS_1 : xP_MS xMT xNW xR (6, 41, 26, 2, 0) := Or.inr (Or.inr (Or.inr ⟨by decide, xm26, rfl, Or.inr ⟨"IceBoats", by decide +kernel⟩, xw_133, xw_85, xw_134, ⟨by decide +kernel, by decide +kernel, by decide +kernel⟩⟩))
theorem xMS_2 : xP_MS xMT xNW xR (9, 133, 29, 1, 0) := Or.inr (Or.inr (Or.inr ⟨by decide, xm29, rfl, Or.inl xw_135, xw_136, xw_85, xw_137, ⟨by decide +kernel, by decide +kernel, by decide +kernel⟩⟩))
theorem xMS_3 : xP_MS xMT xNW xR (9, 136, 30, 1, 0) := Or.inr (Or.inr (Or.inr ⟨by decide, xm30, rfl, Or.inl xw_138, xw_139, xw_85, xw_140, ⟨by decide +kernel, by decide +kernel, by decide +kernel⟩⟩))
theorem xMS_4 : xP_MS xMT xNW xR (9, 305, 39, 1, 0) := Or.inr (Or.inr (Or.inr ⟨by decide, xm39, rfl, Or.inl xw_162, xw_163, xw_85, xw_164, ⟨by decide +kernel, by decide +kernel, by decide +kernel⟩⟩))
theorem xMS_5 : xP_MS xMT xNW xR (9, 246, 43, 1, 0) := Or.inr (Or.inr (Or.inr ⟨by decide, xm43, rfl, Or.inl xw_176, xw_177, xw_178, xw_179, ⟨by decide +kernel, by decide +kernel, by decide +kernel⟩⟩))
theorem xMS_6 : xP_MS xMT xNW xR (9, 325, 26, 2, 0) := Or.inr (Or.inr (Or.inr ⟨by decide, xm26, rfl, Or.inl xw_190, xw_133, xw_85, xw_134, ⟨by decide +kernel, by decide +kernel, by decide +kernel⟩⟩))
theorem xMS_7 : xP_MS xMT xNW xR (9, 347, 68, 1, 0) := Or.inr (Or.inr (Or.inr ⟨by decide, xm68, rfl, Or.inl xw_273, xw_274, xw_85, xw_275, ⟨by decide +kernel, by decide +kernel, by decide +kernel⟩⟩))
theorem xMS_8 : xP_MS xMT xNW xR (7, 19, 64, 1, 0) := Or.inr (Or.inr (Or.inr ⟨by decide, xm64, rfl, Or.inl xw_290, xw_291, xw_56, xw_292, ⟨by decide +kernel, by decide +kernel, by decide +kernel⟩⟩))
theorem xMS_9 : xP_MS xMT xNW xR (6, 63, 70, 2, 0) := Or.inr (Or.inr (Or.inr ⟨by decide, xm70, rfl, Or.inr ⟨"IceBoats", by decide +kernel⟩, xw_302, xw_85, xw_303, ⟨by decide +kernel, by decide +kernel, by decide +kernel⟩⟩))
theorem xMS_10 : xP_MS xMT xNW xR (9, 470, 7002, 1, 0) := Or.inr (Or.inr (Or.inl ⟨rfl, xw_304, xw_305, xw_306, xw_307⟩))
theorem xMS_11 : xP_MS xMT xNW xR (9, 332, 7000, 2, 0) := Or.inl ⟨rfl, xw_365, xw_366, xw_306, xw_367⟩
theorem xMS_12 : xP_MS xMT xNW xR (9, 302, 70, 2, 0) := Or.inr (Or.inr (Or.inr ⟨by decide, xm70, rfl, Or.inl xw_385, xw_302, xw_85, xw_303, ⟨by decide +kernel, by decide +kernel, by decide +kernel⟩⟩))
theorem xMS_13 : xP_MS xMT xNW xR (9, 311, 95, 1, 0) := Or.inr (Or.inr (Or.inr ⟨by decide, xm95, rfl, Or.inl xw_386, xw_387, xw_85, xw_388, ⟨by decide +kernel, by decide +kernel, by decide +kernel⟩⟩))
theorem xMS_14 : xP_MS xMT xNW xR (9, 516, 102, 2, 0) := Or.inr (Or.inr (Or.inr ⟨by decide, xm102, rfl, Or.inl xw_409, xw_410, xw_85, xw_411, ⟨by decide +kernel, by decide +kernel, by decide +kernel⟩⟩))
theorem xMS_15 : xP_MS xMT xNW xR (5, 24, 105, 1, 0) := Or.inr (Or.inr (Or.inr ⟨by decide, xm105, rfl, Or.inl xw_418, xw_419, xw_19, xw_420, ⟨by decide +kernel, by decide +kernel, by decide +kernel⟩⟩))
theorem xMS_16 : xP_MS xMT xNW xR (5, 28, 106, 2, 0) := Or.inr (Or.inr (Or.inr ⟨by decide, xm106, rfl, Or.inl xw_421, xw_422, xw_19, xw_423, ⟨by decide +kernel, by decide +kernel, by decide +kernel⟩⟩))
theorem xMS_17 : xP_MS xMT xNW xR (5, 32, 107, 3, 0) := Or.inr (Or.inr (Or.inr ⟨by decide, xm107, rfl, Or.inl xw_424, xw_425, xw_19, xw_426, ⟨by decide +kernel, by decide +kernel, by decide +kernel⟩⟩))
theorem xMS_18 : xP_MS xMT xNW xR (9, 356, 113, 1, 0) := Or.inr (Or.inr (Or.inr ⟨by decide, xm113, rfl, Or.inl xw_433, xw_434, xw_85, xw_435, ⟨by decide +kernel, by decide +kernel, by decide +kernel⟩⟩))
theorem xMS_19 : xP_MS xMT xNW xR (9, 360, 114, 4, 0) := Or.inr (Or.inr (Or.inr ⟨by decide, xm114, rfl, Or.inl xw_436, xw_437, xw_85, xw_438, ⟨by decide +kernel, by decide +kernel, by decide +kernel⟩⟩))
theorem xMS_20 : xP_MS xMT xNW xR (9, 371, 117, 1, 0) := Or.inr (Or.inr (Or.inr ⟨by decide, xm117, rfl, Or.inl xw_440, xw_441, xw_442, xw_443, ⟨by decide +kernel, by decide +kernel, by decide +kernel⟩⟩))
theorem xMS_21 : xP_MS xMT xNW xR (9, 394, 119, 2, 0) := Or.inr (Or.inr (Or.inr ⟨by decide, xm119, rfl, Or.inl xw_465, xw_466, xw_85, xw_467, ⟨by decide +kernel, by decide +kernel, by decide +kernel⟩⟩))
theorem xMS_22 : xP_MS xMT xNW xR (9, 519, 120, 1, 0) := Or.inr (Or.inr (Or.inr ⟨by decide, xm120, rfl, Or.inl xw_468, xw_469, xw_85, xw_470, ⟨by decide +kernel, by decide +kernel, by decide +kernel⟩⟩))
theorem xMS_23 : xP_MS xMT xNW xR (9, 522, 123, 1, 0) := Or.inr (Or.inr (Or.inr ⟨by decide, xm123, rfl, Or.inl xw_471, xw_472, xw_85, xw_473, ⟨by decide +kernel, by decide +kernel, by decide +kernel⟩⟩))
theorem xMS_24 : xP_MS xMT xNW xR (3, 27, 43, 1, 0) := Or.inr (Or.inr (Or.inr ⟨by decide, xm43, rfl, Or.inl xw_489, xw_177, xw_178, xw_179, ⟨by decide +kernel, by decide +kernel, by decide +kernel⟩⟩))
theorem xMS_25 : xP_MS xMT xNW xR (1, 44, 7001, 2, 0) := Or.inr (Or.inl ⟨rfl, xw_519, xw_520, xw_306, xw_521⟩)
theorem xMS_26 : xP_MS xMT xNW xR (9, 414, 136, 2, 0) := Or.inr (Or.inr (Or.inr ⟨by decide, xm136, rfl, Or.inl xw_524, xw_525, xw_85, xw_526, ⟨by decide +kernel, by decide +kernel, by decide +kernel⟩⟩))
theorem xMS_27 : xP_MS xMT xNW xR (9, 533, 137, 2, 0) := Or.inr (Or.inr (Or.inr ⟨by decide, xm137, rfl, Or.inl xw_539, xw_540, xw_85, xw_541, ⟨by decide +kernel, by decide +kernel, by decide +kernel⟩⟩))
theorem xMS_28 : xP_MS xMT xNW xR (9, 440, 149, 1, 0) := Or.inr (Or.inr (Or.inr ⟨by decide, xm149, rfl, Or.inl xw_554, xw_555, xw_85, xw_556, ⟨by decide +kernel, by decide +kernel, by decide +kernel⟩⟩))
theorem xMS_29 : xP_MS xMT xNW xR (9, 464, 156, 2, 0) := Or.inr (Or.inr (Or.inr ⟨by decide, xm156, rfl, Or.inl xw_575, xw_576, xw_85, xw_577, ⟨by decide +kernel, by decide +kernel, by decide +kernel⟩⟩))
theorem xMS_30 : xP_MS xMT xNW xR (10, 154, 159, 1, 0) := Or.inr (Or.inr (Or.inr ⟨by decide, xm159, rfl, Or.inl xw_621, xw_622, xw_623, xw_624, ⟨by decide +kernel, by decide +kernel, by decide +kernel⟩⟩))
theorem xMS_31 : xP_MS xMT xNW xR (10, 146, 160, 3, 0) := Or.inr (Or.inr (Or.inr ⟨by decide, xm160, rfl, Or.inl xw_629, xw_630, xw_623, xw_631, ⟨by decide +kernel, by decide +kernel, by decide +kernel⟩⟩))
theorem xMS_32 : xP_MS xMT xNW xR (10, 162, 170, 1, 0) := Or.inr (Or.inr (Or.inr ⟨by decide, xm170, rfl, Or.inl xw_646, xw_647, xw_623, xw_648, ⟨by decide +kernel, by decide +kernel, by decide +kernel⟩⟩))
theorem xMS_33 : xP_MS xMT xNW xR (10, 181, 174, 1, 0) := Or.inr (Or.inr (Or.inr ⟨by decide, xm174, rfl, Or.inl xw_653, xw_654, xw_623, xw_655, ⟨by decide +kernel, by decide +kernel, by decide +kernel⟩⟩))
theorem xMS_34 : xP_MS xMT xNW xR (10, 187, 177, 1, 0) := Or.inr (Or.inr (Or.inr ⟨by decide, xm177, rfl, Or.inl xw_661, xw_662, xw_623, xw_663, ⟨by decide +kernel, by decide +kernel, by decide +kernel⟩⟩))
theorem xMS_35 : xP_MS xMT xNW xR (10, 190, 178, 1, 0) := Or.inr (Or.inr (Or.inr ⟨by decide, xm178, rfl, Or.inl xw_664, xw_665, xw_623, xw_666, ⟨by decide +kernel, by decide +kernel, by decide +kernel⟩⟩))
theorem xMS_36 : xP_MS xMT xNW xR (10, 204, 188, 1, 0) := Or.inr (Or.inr (Or.inr ⟨by decide, xm188, rfl, Or.inl xw_680, xw_681, xw_623, xw_682, ⟨by decide +kernel, by decide +kernel, by decide +kernel⟩⟩))
theorem xMS_37 : xP_MS xMT xNW xR (10, 213, 191, 1, 0) := Or.inr (Or.inr (Or.inr ⟨by decide, xm191, rfl, Or.inl xw_688, xw_689, xw_623, xw_690, ⟨by decide +kernel, by decide +kernel, by decide +kernel⟩⟩))
theorem xMS_38 : xP_MS xMT xNW xR (10, 150, 192, 2, 0) := Or.inr (Or.inr (Or.inr ⟨by decide, xm192, rfl, Or.inl xw_695, xw_696, xw_623, xw_697, ⟨by decide +kernel, by decide +kernel, by decide +kernel⟩⟩))
theorem xMS_39 : xP_MS xMT xNW xR (10, 257, 205, 1, 0) := Or.inr (Or.inr (Or.inr ⟨by decide, xm205, rfl, Or.inl xw_730, xw_731, xw_623, xw_732, ⟨by decide +kernel, by decide +kernel, by decide +kernel⟩⟩))
theorem xMS_40 : xP_MS xMT xNW xR (10, 260, 206, 2, 0) := Or.inr (Or.inr (Or.inr ⟨by decide, xm206, rfl, Or.inl xw_733, xw_734, xw_623, xw_735, ⟨by decide +kernel, by decide +kernel, by decide +kernel⟩⟩))
theorem xMS_41 : xP_MS xMT xNW xR (10, 286, 227, 1, 0) := Or.inr (Or.inr (Or.inr ⟨by decide, xm227, rfl, Or.inl xw_772, xw_773, xw_623, xw_774, ⟨by decide +kernel, by decide +kernel, by decide +kernel⟩⟩))
set_option maxRecDepth 100000 in
theorem xMS_ok : ∀ q ∈ xMS, xP_MS xMT xNW xR q := List.forall_mem_cons.mpr ⟨xMS_0, List.forall_mem_cons.mpr ⟨xMS_1, List.forall_mem_cons.mpr ⟨xMS_2, List.forall_mem_cons.mpr ⟨xMS_3, List.forall_mem_cons.mpr ⟨xMS_4, List.forall_mem_cons.mpr ⟨xMS_5, List.forall_mem_cons.mpr ⟨xMS_6, List.forall_mem_cons.mpr ⟨xMS_7, List.forall_mem_cons.mpr ⟨xMS_8, List.forall_mem_cons.mpr ⟨xMS_9, List.forall_mem_cons.mpr ⟨xMS_10, List.forall_mem_cons.mpr ⟨xMS_11, List.forall_mem_cons.mpr ⟨xMS_12, List.forall_mem_cons.mpr ⟨xMS_13, List.forall_mem_cons.mpr ⟨xMS_14, List.forall_mem_cons.mpr ⟨xMS_15, List.forall_mem_cons.mpr ⟨xMS_16, List.forall_mem_cons.mpr ⟨xMS_17, List.forall_mem_cons.mpr ⟨xMS_18, List.forall_mem_cons.mpr ⟨xMS_19, List.forall_mem_cons.mpr ⟨xMS_20, List.forall_mem_cons.mpr ⟨xMS_21, List.forall_mem_cons.mpr ⟨xMS_22, List.forall_mem_cons.mpr ⟨xMS_23, List.forall_mem_cons.mpr ⟨xMS_24, List.forall_mem_cons.mpr ⟨xMS_25, List.forall_mem_cons.mpr ⟨xMS_26, List.forall_mem_cons.mpr ⟨xMS_27, List.forall_mem_cons.mpr ⟨xMS_28, List.forall_mem_cons.mpr ⟨xMS_29, List.forall_mem_cons.mpr ⟨xMS_30, List.forall_mem_cons.mpr ⟨xMS_31, List.forall_mem_cons.mpr ⟨xMS_32, List.forall_mem_cons.mpr ⟨xMS_33, List.forall_mem_cons.mpr ⟨xMS_34, List.forall_mem_cons.mpr ⟨xMS_35, List.forall_mem_cons.mpr ⟨xMS_36, List.forall_mem_cons.mpr ⟨xMS_37, List.forall_mem_cons.mpr ⟨xMS_38, List.forall_mem_cons.mpr ⟨xMS_39, List.forall_mem_cons.mpr ⟨xMS_40, List.forall_mem_cons.mpr ⟨xMS_41, fun _ h => absurd h List.not_mem_nil⟩⟩⟩⟩⟩⟩⟩⟩⟩⟩⟩⟩⟩⟩⟩⟩⟩⟩⟩⟩⟩⟩⟩⟩⟩⟩⟩⟩⟩⟩⟩⟩⟩⟩⟩⟩⟩⟩⟩⟩⟩⟩
theorem xMI_0 : xP_MI xMT xNW xR (9, 20, 1, 1, 0) := ⟨xm1, rfl, Or.inl xw_7, xw_8, xw_6, xw_9, ⟨by decide +kernel, by decide +kernel, by decide +kernel⟩, rfl, rfl⟩
theorem xMI_1 : xP_MI xMT xNW xR (9, 45, 3, 1, 0) := ⟨xm3, rfl, Or.inr ⟨"IceBoats", by decide +kernel⟩, xw_20, xw_19, xw_21, ⟨by decide +kernel, by decide +kernel, by decide +kernel⟩, rfl, rfl⟩
theorem xMI_2 : xP_MI xMT xNW xR (9, 52, 4, 1, 0) := ⟨xm4, rfl, Or.inr ⟨"IceBoats", by decide +kernel⟩, xw_26, xw_25, xw_27, ⟨by decide +kernel, by decide +kernel, by decide +kernel⟩, rfl, rfl⟩
theorem xMI_3 : xP_MI xMT xNW xR (9, 59, 5, 1, 0) := ⟨xm5, rfl, Or.inr ⟨"IceBoats", by decide +kernel⟩, xw_32, xw_31, xw_33, ⟨by decide +kernel, by decide +kernel, by decide +kernel⟩, rfl, rfl⟩
theorem xMI_4 : xP_MI xMT xNW xR (9, 76, 6, 1, 0) := ⟨xm6, rfl, Or.inr ⟨"IceBoats", by decide +kernel⟩, xw_41, xw_40, xw_42, ⟨by decide +kernel, by decide +kernel, by decide +kernel⟩, rfl, rfl⟩
theorem xMI_5 : xP_MI xMT xNW xR (9, 77, 7, 1, 0) := ⟨xm7, rfl, Or.inr ⟨"IceBoats", by decide +kernel⟩, xw_46, xw_45, xw_47, ⟨by decide +kernel, by decide +kernel, by decide +kernel⟩, rfl, rfl⟩
theorem xMI_6 : xP_MI xMT xNW xR (6, 30, 2, 1, 0) := ⟨xm2, rfl, Or.inr ⟨"IceBoats", by decide +kernel⟩, xw_57, xw_56, xw_58, ⟨by decide +kernel, by decide +kernel, by decide +kernel⟩, rfl, rfl⟩
theorem xMI_7 : xP_MI xMT xNW xR (9, 221, 73, 5, 0) := ⟨xm73, rfl, Or.inl xw_312, xw_313, xw_311, xw_314, ⟨by decide +kernel, by decide +kernel, by decide +kernel⟩, rfl, rfl⟩
theorem xMI_8 : xP_MI xMT xNW xR (9, 270, 85, 6, 0) := ⟨xm85, rfl, Or.inl xw_350, xw_351, xw_244, xw_352, ⟨by decide +kernel, by decide +kernel, by decide +kernel⟩, rfl, rfl⟩
theorem xMI_9 : xP_MI xMT xNW xR (11, 9, 0, 1, 0) := ⟨xm0, rfl, Or.inl xw_828, xw_829, xw_85, xw_830, ⟨by decide +kernel, by decide +kernel, by decide +kernel⟩, rfl, rfl⟩
theorem xMI_10 : xP_MI xMT xNW xR (11, 12, 157, 1, 0) := ⟨xm157, rfl, Or.inl xw_833, xw_834, xw_623, xw_835, ⟨by decide +kernel, by decide +kernel, by decide +kernel⟩, rfl, rfl⟩
set_option maxRecDepth 100000 in
theorem xMI_ok : ∀ q ∈ xMI, xP_MI xMT xNW xR q := List.forall_mem_cons.mpr ⟨xMI_0, List.forall_mem_cons.mpr ⟨xMI_1, List.forall_mem_cons.mpr ⟨xMI_2, List.forall_mem_cons.mpr ⟨xMI_3, List.forall_mem_cons.mpr ⟨xMI_4, List.forall_mem_cons.mpr ⟨xMI_5, List.forall_mem_cons.mpr ⟨xMI_6, List.forall_mem_cons.mpr ⟨xMI_7, List.forall_mem_cons.mpr ⟨xMI_8, List.forall_mem_cons.mpr ⟨xMI_9, List.forall_mem_cons.mpr ⟨xMI_10, fun _ h => absurd h List.not_mem_nil⟩⟩⟩⟩⟩⟩⟩⟩⟩⟩⟩
theorem xOI_0 : xP_OI xR (9, 3, 0, 0, 0) := xw_0
theorem xOI_1 : xP_OI xR (6, 3, 0, 0, 0) := xw_48
theorem xOI_2 : xP_OI xR (7, 3, 0, 0, 0) := xw_61
theorem xOI_3 : xP_OI xR (5, 3, 0, 0, 0) := xw_63
theorem xOI_4 : xP_OI xR (3, 3, 0, 0, 0) := xw_65
theorem xOI_5 : xP_OI xR (1, 5, 0, 0, 0) := xw_68
theorem xOI_6 : xP_OI xR (4, 3, 0, 0, 0) := xw_73
theorem xOI_7 : xP_OI xR (0, 3, 0, 0, 0) := xw_76
theorem xOI_8 : xP_OI xR (2, 1, 0, 0, 0) := xw_316
theorem xOI_9 : xP_OI xR (8, 3, 0, 0, 0) := xw_357
theorem xOI_10 : xP_OI xR (10, 1, 0, 0, 0) := xw_578
set_option maxRecDepth 100000 in
theorem xOI_ok : ∀ q ∈ xOI, xP_OI xR q := List.forall_mem_cons.mpr ⟨xOI_0, List.forall_mem_cons.mpr ⟨xOI_1, List.forall_mem_cons.mpr ⟨xOI_2, List.forall_mem_cons.mpr ⟨xOI_3, List.forall_mem_cons.mpr ⟨xOI_4, List.forall_mem_cons.mpr ⟨xOI_5, List.forall_mem_cons.mpr ⟨xOI_6, List.forall_mem_cons.mpr ⟨xOI_7, List.forall_mem_cons.mpr ⟨xOI_8, List.forall_mem_cons.mpr ⟨xOI_9, List.forall_mem_cons.mpr ⟨xOI_10, fun _ h => absurd h List.not_mem_nil⟩⟩⟩⟩⟩⟩⟩⟩⟩⟩⟩
theorem xCL_0 : xP_CL vwCl xFD xR (9, 18, 6, 0, 0) := ⟨RX6, TX6, 8, tyX6, _, [.null, .null, .null, .null, .null, .null, .long 0, .int 0], xclo_6, rfl, rfl, fun _ _ => ⟨_, _, rfl, Or.inl ⟨rfl, rfl⟩, ⟨_, _, rfl, Or.inl ⟨rfl, rfl⟩, ⟨_, _, rfl, Or.inl ⟨rfl, rfl⟩, ⟨_, _, rfl, Or.inl ⟨rfl, rfl⟩, ⟨_, _, rfl, Or.inl ⟨rfl, rfl⟩, ⟨_, _, rfl, Or.inl ⟨rfl, rfl⟩, ⟨_, _, rfl, ⟨0, rfl, fun z hz => by cases hz; rfl⟩, ⟨_, _, rfl, ⟨0, rfl, Int.le_refl _, Int.le_refl _⟩, rfl⟩⟩⟩⟩⟩⟩⟩⟩, by decide +kernel, xw_4, xw_5, xw_6⟩
theorem xCL_1 : xP_CL vwCl xFD xR (9, 43, 5, 0, 0) := ⟨RX5, TX5, 1, tyX5, _, [.null], xclo_5, rfl, rfl, fun _ _ => ⟨_, _, rfl, Or.inl ⟨rfl, rfl⟩, rfl⟩, by decide +kernel, xw_17, xw_18, xw_19⟩
theorem xCL_2 : xP_CL vwCl xFD xR (9, 50, 3, 0, 0) := ⟨RX3, TX3, 4, tyX3, _, [.null, .null, .int 0, .int 0], xclo_3, rfl, rfl, fun _ _ => ⟨_, _, rfl, Or.inl ⟨rfl, rfl⟩, ⟨_, _, rfl, Or.inl ⟨rfl, rfl⟩, ⟨_, _, rfl, ⟨0, rfl, Int.le_refl _, Int.le_refl _⟩, ⟨_, _, rfl, ⟨0, rfl, Int.le_refl _, Int.le_refl _⟩, rfl⟩⟩⟩⟩, by decide +kernel, xw_23, xw_24, xw_25⟩
theorem xCL_3 : xP_CL vwCl xFD xR (9, 57, 1, 0, 0) := ⟨RX1, TX1, 4, tyX1, _, [.null, .null, .null, .null], xclo_1, rfl, rfl, fun _ _ => ⟨_, _, rfl, Or.inl ⟨rfl, rfl⟩, ⟨_, _, rfl, Or.inl ⟨rfl, rfl⟩, ⟨_, _, rfl, Or.inl ⟨rfl, rfl⟩, ⟨_, _, rfl, Or.inl ⟨rfl, rfl⟩, rfl⟩⟩⟩⟩, by decide +kernel, xw_29, xw_30, xw_31⟩
theorem xCL_4 : xP_CL vwCl xFD xR (9, 9, 4, 0, 0) := ⟨RX4, TX4, 2, tyX4, _, [.null, .int 0], xclo_4, rfl, rfl, fun _ _ => ⟨_, _, rfl, Or.inl ⟨rfl, rfl⟩, ⟨_, _, rfl, ⟨0, rfl, Int.le_refl _, Int.le_refl _⟩, rfl⟩⟩, by decide +kernel, xw_38, xw_39, xw_40⟩
theorem xCL_5 : xP_CL vwCl xFD xR (9, 25, 0, 0, 0) := ⟨RX0, TX0, 12, tyX0, _, [.null, .int 0, .int 0, .int 0, .long 0, .int 0, .int 0, .int 0, .int 0, .int 0, .int 0, .null], xclo_0, rfl, rfl, fun _ _ => ⟨_, _, rfl, Or.inl ⟨rfl, rfl⟩, ⟨_, _, rfl, ⟨0, rfl, Int.le_refl _, Int.le_refl _⟩, ⟨_, _, rfl, ⟨0, rfl, Int.le_refl _, Int.le_refl _⟩, ⟨_, _, rfl, ⟨0, rfl, Int.le_refl _, Int.le_refl _⟩, ⟨_, _, rfl, ⟨0, rfl, fun z hz => by cases hz; rfl⟩, ⟨_, _, rfl, ⟨0, rfl, Int.le_refl _, Int.le_refl _⟩, ⟨_, _, rfl, ⟨0, rfl, Int.le_refl _, Int.le_refl _⟩, ⟨_, _, rfl, ⟨0, rfl, Int.le_refl _, Int.le_refl _⟩, ⟨_, _, rfl, ⟨0, rfl, Int.le_refl _, Int.le_refl _⟩, ⟨_, _, rfl, ⟨0, rfl, Int.le_refl _, Int.le_refl _⟩, ⟨_, _, rfl, ⟨0, rfl, Int.le_refl _, Int.le_refl _⟩, ⟨_, _, rfl, Or.inl ⟨rfl, rfl⟩, rfl⟩⟩⟩⟩⟩⟩⟩⟩⟩⟩⟩⟩, by decide +kernel, xw_43, xw_44, xw_45⟩
theorem xCL_6 : xP_CL vwCl xFD xR (6, 28, 7, 0, 0) := ⟨RX7, TX7, 2, tyX7, _, [.null, .long 0], xclo_7, rfl, rfl, fun _ _ => ⟨_, _, rfl, Or.inl ⟨rfl, rfl⟩, ⟨_, _, rfl, ⟨0, rfl, fun z hz => by cases hz; rfl⟩, rfl⟩⟩, by decide +kernel, xw_54, xw_55, xw_56⟩
theorem xCL_7 : xP_CL vwCl xFD xR (9, 37, 2, 0, 0) := ⟨RX2, TX2, 4, tyX2, _, [.int 0, .int 0, .int 0, .int 0], xclo_2, rfl, rfl, fun _ _ => ⟨_, _, rfl, ⟨0, rfl, Int.le_refl _, Int.le_refl _⟩, ⟨_, _, rfl, ⟨0, rfl, Int.le_refl _, Int.le_refl _⟩, ⟨_, _, rfl, ⟨0, rfl, Int.le_refl _, Int.le_refl _⟩, ⟨_, _, rfl, ⟨0, rfl, Int.le_refl _, Int.le_refl _⟩, rfl⟩⟩⟩⟩, by decide +kernel, xw_309, xw_310, xw_311⟩
theorem xCL_8 : xP_CL vwCl xFD xR (9, 31, 8, 0, 0) := ⟨RX8, TX8, 7, tyX8, _, [.int 0, .int 0, .int 0, .int 0, .long 0, .null, .null], xclo_8, rfl, rfl, fun _ _ => ⟨_, _, rfl, ⟨0, rfl, Int.le_refl _, Int.le_refl _⟩, ⟨_, _, rfl, ⟨0, rfl, Int.le_refl _, Int.le_refl _⟩, ⟨_, _, rfl, ⟨0, rfl, Int.le_refl _, Int.le_refl _⟩, ⟨_, _, rfl, ⟨0, rfl, Int.le_refl _, Int.le_refl _⟩, ⟨_, _, rfl, ⟨0, rfl, fun z hz => by cases hz; rfl⟩, ⟨_, _, rfl, Or.inl ⟨rfl, rfl⟩, ⟨_, _, rfl, Or.inl ⟨rfl, rfl⟩, rfl⟩⟩⟩⟩⟩⟩⟩, by decide +kernel, xw_348, xw_349, xw_244⟩
theorem xCL_9 : xP_CL vwCl xFD xR (11, 7, 9, 0, 0) := ⟨RX9, TX9, 19, tyX9, _, [.null, .null, .null, .null, .null, .null, .null, .null, .null, .null, .int 0, .int 0, .int 0, .int 0, .int 0, .int 0, .long 0, .long 0, .long 0], xclo_9, rfl, rfl, fun _ _ => ⟨_, _, rfl, Or.inl ⟨rfl, rfl⟩, ⟨_, _, rfl, Or.inl ⟨rfl, rfl⟩, ⟨_, _, rfl, Or.inl ⟨rfl, rfl⟩, ⟨_, _, rfl, Or.inl ⟨rfl, rfl⟩, ⟨_, _, rfl, Or.inl ⟨rfl, rfl⟩, ⟨_, _, rfl, Or.inl ⟨rfl, rfl⟩, ⟨_, _, rfl, Or.inl ⟨rfl, rfl⟩, ⟨_, _, rfl, Or.inl ⟨rfl, rfl⟩, ⟨_, _, rfl, Or.inl ⟨rfl, rfl⟩, ⟨_, _, rfl, Or.inl ⟨rfl, rfl⟩, ⟨_, _, rfl, ⟨0, rfl, Int.le_refl _, Int.le_refl _⟩, ⟨_, _, rfl, ⟨0, rfl, Int.le_refl _, Int.le_refl _⟩, ⟨_, _, rfl, ⟨0, rfl, Int.le_refl _, Int.le_refl _⟩, ⟨_, _, rfl, ⟨0, rfl, Int.le_refl _, Int.le_refl _⟩, ⟨_, _, rfl, ⟨0, rfl, Int.le_refl _, Int.le_refl _⟩, ⟨_, _, rfl, ⟨0, rfl, Int.le_refl _, Int.le_refl _⟩, ⟨_, _, rfl, ⟨0, rfl, fun z hz => by cases hz; rfl⟩, ⟨_, _, rfl, ⟨0, rfl, fun z hz => by cases hz; rfl⟩, ⟨_, _, rfl, ⟨0, rfl, fun z hz => by cases hz; rfl⟩, rfl⟩⟩⟩⟩⟩⟩⟩⟩⟩⟩⟩⟩⟩⟩⟩⟩⟩⟩⟩, by decide +kernel, xw_826, xw_827, xw_85⟩
theorem xCL_10 : xP_CL vwCl xFD xR (11, 10, 10, 0, 0) := ⟨RX10, TX10, 51, tyX10, _, [.int 0, .null, .int 0, .long 0, .long 0, .long 0, .int 0, .null, .null, .null, .null, .null, .null, .null, .null, .null, .null, .int 0, .int 0, .null, .null, .null, .null, .null, .null, .null, .null, .null, .null, .null, .int 0, .null, .null, .null, .null, .null, .int 0, .null, .null, .null, .null, .null, .null, .null, .null, .null, .null, .null, .null, .null, .long 0], xclo_10, rfl, rfl, fun _ _ => ⟨_, _, rfl, ⟨0, rfl, Int.le_refl _, Int.le_refl _⟩, ⟨_, _, rfl, Or.inl ⟨rfl, rfl⟩, ⟨_, _, rfl, ⟨0, rfl, Int.le_refl _, Int.le_refl _⟩, ⟨_, _, rfl, ⟨0, rfl, fun z hz => by cases hz; rfl⟩, ⟨_, _, rfl, ⟨0, rfl, fun z hz => by cases hz; rfl⟩, ⟨_, _, rfl, ⟨0, rfl, fun z hz => by cases hz; rfl⟩, ⟨_, _, rfl, ⟨0, rfl, Int.le_refl _, Int.le_refl _⟩, ⟨_, _, rfl, Or.inl ⟨rfl, rfl⟩, ⟨_, _, rfl, Or.inl ⟨rfl, rfl⟩, ⟨_, _, rfl, Or.inl ⟨rfl, rfl⟩, ⟨_, _, rfl, Or.inl ⟨rfl, rfl⟩, ⟨_, _, rfl, Or.inl ⟨rfl, rfl⟩, ⟨_, _, rfl, Or.inl ⟨rfl, rfl⟩, ⟨_, _, rfl, Or.inl ⟨rfl, rfl⟩, ⟨_, _, rfl, Or.inl ⟨rfl, rfl⟩, ⟨_, _, rfl, Or.inl ⟨rfl, rfl⟩, ⟨_, _, rfl, Or.inl ⟨rfl, rfl⟩, ⟨_, _, rfl, ⟨0, rfl, Int.le_refl _, Int.le_refl _⟩, ⟨_, _, rfl, ⟨0, rfl, Int.le_refl _, Int.le_refl _⟩, ⟨_, _, rfl, Or.inl ⟨rfl, rfl⟩, ⟨_, _, rfl, Or.inl ⟨rfl, rfl⟩, ⟨_, _, rfl, Or.inl ⟨rfl, rfl⟩, ⟨_, _, rfl, Or.inl ⟨rfl, rfl⟩, ⟨_, _, rfl, Or.inl ⟨rfl, rfl⟩, ⟨_, _, rfl, Or.inl ⟨rfl, rfl⟩, ⟨_, _, rfl, Or.inl ⟨rfl, rfl⟩, ⟨_, _, rfl, Or.inl ⟨rfl, rfl⟩, ⟨_, _, rfl, Or.inl ⟨rfl, rfl⟩, ⟨_, _, rfl, Or.inl ⟨rfl, rfl⟩, ⟨_, _, rfl, Or.inl ⟨rfl, rfl⟩, ⟨_, _, rfl, ⟨0, rfl, Int.le_refl _, Int.le_refl _⟩, ⟨_, _, rfl, Or.inl ⟨rfl, rfl⟩, ⟨_, _, rfl, Or.inl ⟨rfl, rfl⟩, ⟨_, _, rfl, Or.inl ⟨rfl, rfl⟩, ⟨_, _, rfl, Or.inl ⟨rfl, rfl⟩, ⟨_, _, rfl, Or.inl ⟨rfl, rfl⟩, ⟨_, _, rfl, ⟨0, rfl, Int.le_refl _, Int.le_refl _⟩, ⟨_, _, rfl, Or.inl ⟨rfl, rfl⟩, ⟨_, _, rfl, Or.inl ⟨rfl, rfl⟩, ⟨_, _, rfl, Or.inl ⟨rfl, rfl⟩, ⟨_, _, rfl, Or.inl ⟨rfl, rfl⟩, ⟨_, _, rfl, Or.inl ⟨rfl, rfl⟩, ⟨_, _, rfl, Or.inl ⟨rfl, rfl⟩, ⟨_, _, rfl, Or.inl ⟨rfl, rfl⟩, ⟨_, _, rfl, Or.inl ⟨rfl, rfl⟩, ⟨_, _, rfl, Or.inl ⟨rfl, rfl⟩, ⟨_, _, rfl, Or.inl ⟨rfl, rfl⟩, ⟨_, _, rfl, Or.inl ⟨rfl, rfl⟩, ⟨_, _, rfl, Or.inl ⟨rfl, rfl⟩, ⟨_, _, rfl, Or.inl ⟨rfl, rfl⟩, ⟨_, _, rfl, ⟨0, rfl, fun z hz => by cases hz; rfl⟩, rfl⟩⟩⟩⟩⟩⟩⟩⟩⟩⟩⟩⟩⟩⟩⟩⟩⟩⟩⟩⟩⟩⟩⟩⟩⟩⟩⟩⟩⟩⟩⟩⟩⟩⟩⟩⟩⟩⟩⟩⟩⟩⟩⟩⟩⟩⟩⟩⟩⟩⟩⟩, by decide +kernel, xw_831, xw_832, xw_623⟩
set_option maxRecDepth 100000 in
theorem xCL_ok : ∀ q ∈ xCL, xP_CL vwCl xFD xR q := List.forall_mem_cons.mpr ⟨xCL_0, List.forall_mem_cons.mpr ⟨xCL_1, List.forall_mem_cons.mpr ⟨xCL_2, List.forall_mem_cons.mpr ⟨xCL_3, List.forall_mem_cons.mpr ⟨xCL_4, List.forall_mem_cons.mpr ⟨xCL_5, List.forall_mem_cons.mpr ⟨xCL_6, List.forall_mem_cons.mpr ⟨xCL_7, List.forall_mem_cons.mpr ⟨xCL_8, List.forall_mem_cons.mpr ⟨xCL_9, List.forall_mem_cons.mpr ⟨xCL_10, fun _ h => absurd h List.not_mem_nil⟩⟩⟩⟩⟩⟩⟩⟩⟩⟩⟩
theorem xAL_0 : xP_AL xTY xR (9, 9, 3, 0, 0) := ⟨by decide, by decide, "IceBoats$Row", rfl, xw_1, by decide +kernel⟩
theorem xAL_1 : xP_AL xTY xR (9, 25, 4, 0, 0) := ⟨by decide, by decide, "IceBoats$Boat", rfl, xw_11, by decide +kernel⟩
theorem xAL_2 : xP_AL xTY xR (9, 31, 5, 0, 0) := ⟨by decide, by decide, "IceBoats$Word", rfl, xw_13, by decide +kernel⟩
theorem xAL_3 : xP_AL xTY xR (9, 37, 6, 0, 0) := ⟨by decide, by decide, "IceBoats$Look", rfl, xw_15, by decide +kernel⟩
set_option maxRecDepth 100000 in
theorem xAL_ok : ∀ q ∈ xAL, xP_AL xTY xR q := List.forall_mem_cons.mpr ⟨xAL_0, List.forall_mem_cons.mpr ⟨xAL_1, List.forall_mem_cons.mpr ⟨xAL_2, List.forall_mem_cons.mpr ⟨xAL_3, fun _ h => absurd h List.not_mem_nil⟩⟩⟩⟩
theorem xKI_0 : xP_KI xR (9, 492, 0, 0, 1103515245) := ⟨1103515245, xw_237, by decide +kernel⟩
theorem xKI_1 : xP_KI xR (13, 265, 0, 0, 1431655765) := ⟨1431655765, xw_462, by decide +kernel⟩
theorem xKI_2 : xP_KI xR (13, 266, 0, 0, 858993459) := ⟨858993459, xw_463, by decide +kernel⟩
theorem xKI_3 : xP_KI xR (13, 267, 0, 0, 252645135) := ⟨252645135, xw_464, by decide +kernel⟩
theorem xKI_4 : xP_KI xR (10, 196, 0, 0, 100000) := ⟨100000, xw_675, by decide +kernel⟩
theorem xKI_5 : xP_KI xR (10, 229, 0, 0, 1103515245) := ⟨1103515245, xw_716, by decide +kernel⟩
set_option maxRecDepth 100000 in
theorem xKI_ok : ∀ q ∈ xKI, xP_KI xR q := List.forall_mem_cons.mpr ⟨xKI_0, List.forall_mem_cons.mpr ⟨xKI_1, List.forall_mem_cons.mpr ⟨xKI_2, List.forall_mem_cons.mpr ⟨xKI_3, List.forall_mem_cons.mpr ⟨xKI_4, List.forall_mem_cons.mpr ⟨xKI_5, fun _ h => absurd h List.not_mem_nil⟩⟩⟩⟩⟩⟩
theorem xKL_0 : xP_KL xR (6, 35, 0, 0, (-1)) := ⟨(-1), xw_60, by decide +kernel⟩
theorem xKL_1 : xP_KL xR (14, 314, 0, 0, 6148914691236517205) := ⟨6148914691236517205, xw_185, by decide +kernel⟩
theorem xKL_2 : xP_KL xR (14, 316, 0, 0, 3689348814741910323) := ⟨3689348814741910323, xw_186, by decide +kernel⟩
theorem xKL_3 : xP_KL xR (14, 318, 0, 0, 1085102592571150095) := ⟨1085102592571150095, xw_187, by decide +kernel⟩
theorem xKL_4 : xP_KL xR (7, 31, 0, 0, (-1)) := ⟨(-1), xw_295, by decide +kernel⟩
theorem xKL_5 : xP_KL xR (7, 33, 0, 0, (-72340172838076674)) := ⟨(-72340172838076674), xw_296, by decide +kernel⟩
theorem xKL_6 : xP_KL xR (7, 35, 0, 0, 9187201950435737471) := ⟨9187201950435737471, xw_297, by decide +kernel⟩
theorem xKL_7 : xP_KL xR (9, 405, 0, 0, 4) := ⟨4, xw_499, by decide +kernel⟩
theorem xKL_8 : xP_KL xR (9, 468, 0, 0, 2) := ⟨2, xw_522, by decide +kernel⟩
theorem xKL_9 : xP_KL xR (9, 447, 0, 0, 17) := ⟨17, xw_557, by decide +kernel⟩
theorem xKL_10 : xP_KL xR (9, 449, 0, 0, 31) := ⟨31, xw_558, by decide +kernel⟩
theorem xKL_11 : xP_KL xR (10, 311, 0, 0, 4) := ⟨4, xw_795, by decide +kernel⟩
theorem xKL_12 : xP_KL xR (10, 313, 0, 0, 3) := ⟨3, xw_796, by decide +kernel⟩
theorem xKL_13 : xP_KL xR (10, 335, 0, 0, 17) := ⟨17, xw_810, by decide +kernel⟩
theorem xKL_14 : xP_KL xR (10, 343, 0, 0, (-1)) := ⟨(-1), xw_824, by decide +kernel⟩
theorem xKL_15 : xP_KL xR (10, 326, 0, 0, 31) := ⟨31, xw_825, by decide +kernel⟩
set_option maxRecDepth 100000 in
theorem xKL_ok : ∀ q ∈ xKL, xP_KL xR q := List.forall_mem_cons.mpr ⟨xKL_0, List.forall_mem_cons.mpr ⟨xKL_1, List.forall_mem_cons.mpr ⟨xKL_2, List.forall_mem_cons.mpr ⟨xKL_3, List.forall_mem_cons.mpr ⟨xKL_4, List.forall_mem_cons.mpr ⟨xKL_5, List.forall_mem_cons.mpr ⟨xKL_6, List.forall_mem_cons.mpr ⟨xKL_7, List.forall_mem_cons.mpr ⟨xKL_8, List.forall_mem_cons.mpr ⟨xKL_9, List.forall_mem_cons.mpr ⟨xKL_10, List.forall_mem_cons.mpr ⟨xKL_11, List.forall_mem_cons.mpr ⟨xKL_12, List.forall_mem_cons.mpr ⟨xKL_13, List.forall_mem_cons.mpr ⟨xKL_14, List.forall_mem_cons.mpr ⟨xKL_15, fun _ h => absurd h List.not_mem_nil⟩⟩⟩⟩⟩⟩⟩⟩⟩⟩⟩⟩⟩⟩⟩⟩
theorem xGS_0 : xP_GS xSV xNF xR (9, 173, 0, 0, 0) := ⟨"IceBoats", "BOAT_KIND_ABOVE", "[I", by decide +kernel, Or.inl xw_191⟩
theorem xGS_1 : xP_GS xSV xNF xR (6, 49, 1, 0, 0) := ⟨"IceBoats", "STEP_X", "[I", by decide +kernel, Or.inr ⟨"IceBoats", by decide +kernel⟩⟩
theorem xGS_2 : xP_GS xSV xNF xR (6, 52, 2, 0, 0) := ⟨"IceBoats", "STEP_Y", "[I", by decide +kernel, Or.inr ⟨"IceBoats", by decide +kernel⟩⟩
theorem xGS_3 : xP_GS xSV xNF xR (9, 283, 3, 0, 0) := ⟨"IceBoats", "WORD_KIND_ABOVE", "[I", by decide +kernel, Or.inl xw_376⟩
theorem xGS_4 : xP_GS xSV xNF xR (5, 36, 4, 0, 0) := ⟨"IceBoats", "LETTER_BYTES", "[I", by decide +kernel, Or.inr ⟨"IceBoats", by decide +kernel⟩⟩
set_option maxRecDepth 100000 in
theorem xGS_ok : ∀ q ∈ xGS, xP_GS xSV xNF xR q := List.forall_mem_cons.mpr ⟨xGS_0, List.forall_mem_cons.mpr ⟨xGS_1, List.forall_mem_cons.mpr ⟨xGS_2, List.forall_mem_cons.mpr ⟨xGS_3, List.forall_mem_cons.mpr ⟨xGS_4, fun _ h => absurd h List.not_mem_nil⟩⟩⟩⟩⟩
theorem x_arrs : Cond.arrayClass .int ∈ xTs ∧ Cond.arrayClass .long ∈ xTs ∧ Cond.arrayClass .boolean ∈ xTs := ⟨xw_1209, xw_1210, xw_1211⟩
theorem x_oi : Cond.instanceMethod Lib.objectInit ∈ xTs ∧ Cond.code Lib.objectInit ⟨#[0xb1]⟩ 1 none ∈ xTs := ⟨xw_1212, xw_1213⟩
end
section
/-! ===== every table is what the code says ===== -/
abbrev xgoodM (N : XM) : Bool := plainName (xm_y N).cls && (decide (xR (xm_i N) = (xm_y N).cls) && xtabb xfin xFL xMV xMS xMI xOI xCL xAL xKI xKL xGS N)
theorem xgM_0 : ∀ N ∈ xML_0, xgoodM N = true := List.all_eq_true.mp (by decide +kernel)
theorem xgM_1 : ∀ N ∈ xML_1, xgoodM N = true := List.all_eq_true.mp (by decide +kernel)
theorem xgM_2 : ∀ N ∈ xML_2, xgoodM N = true := List.all_eq_true.mp (by decide +kernel)
theorem xgM_3 : ∀ N ∈ xML_3, xgoodM N = true := List.all_eq_true.mp (by decide +kernel)
theorem xgM_4 : ∀ N ∈ xML_4, xgoodM N = true := List.all_eq_true.mp (by decide +kernel)
theorem xgM_5 : ∀ N ∈ xML_5, xgoodM N = true := List.all_eq_true.mp (by decide +kernel)
theorem xgM_6 : ∀ N ∈ xML_6, xgoodM N = true := List.all_eq_true.mp (by decide +kernel)
theorem xgM_7 : ∀ N ∈ xML_7, xgoodM N = true := List.all_eq_true.mp (by decide +kernel)
theorem xgM_8 : ∀ N ∈ xML_8, xgoodM N = true := List.all_eq_true.mp (by decide +kernel)
theorem xgM_9 : ∀ N ∈ xML_9, xgoodM N = true := List.all_eq_true.mp (by decide +kernel)
theorem xgM_10 : ∀ N ∈ xML_10, xgoodM N = true := List.all_eq_true.mp (by decide +kernel)
theorem xgM_11 : ∀ N ∈ xML_11, xgoodM N = true := List.all_eq_true.mp (by decide +kernel)
theorem xgM_12 : ∀ N ∈ xML_12, xgoodM N = true := List.all_eq_true.mp (by decide +kernel)
theorem xgM_13 : ∀ N ∈ xML_13, xgoodM N = true := List.all_eq_true.mp (by decide +kernel)
theorem xgM_14 : ∀ N ∈ xML_14, xgoodM N = true := List.all_eq_true.mp (by decide +kernel)
theorem xgM_15 : ∀ N ∈ xML_15, xgoodM N = true := List.all_eq_true.mp (by decide +kernel)
theorem xML_all : ∀ r ∈ xMLL, ∀ N ∈ r, xgoodM N = true := List.forall_mem_cons.mpr ⟨xgM_0, List.forall_mem_cons.mpr ⟨xgM_1, List.forall_mem_cons.mpr ⟨xgM_2, List.forall_mem_cons.mpr ⟨xgM_3, List.forall_mem_cons.mpr ⟨xgM_4, List.forall_mem_cons.mpr ⟨xgM_5, List.forall_mem_cons.mpr ⟨xgM_6, List.forall_mem_cons.mpr ⟨xgM_7, List.forall_mem_cons.mpr ⟨xgM_8, List.forall_mem_cons.mpr ⟨xgM_9, List.forall_mem_cons.mpr ⟨xgM_10, List.forall_mem_cons.mpr ⟨xgM_11, List.forall_mem_cons.mpr ⟨xgM_12, List.forall_mem_cons.mpr ⟨xgM_13, List.forall_mem_cons.mpr ⟨xgM_14, List.forall_mem_cons.mpr ⟨xgM_15, fun _ h => absurd h List.not_mem_nil⟩⟩⟩⟩⟩⟩⟩⟩⟩⟩⟩⟩⟩⟩⟩⟩
theorem x_ok : ∀ j N, xMT j = some N → plainName (xm_y N).cls = true ∧ ∀ pc q, xfetch (xm_t N) pc = some q → xdec (xm_c N) pc q.1 ∧ xaux vwCl xTs xMT xFT xFD xTY xSV xNW xNF N pc q.2.1 q.2.2.1 q.2.2.2 q.1 := by
  intro j N h
  have hg : xgoodM N = true := by
    unfold xMT at h
    cases hr : xMLL[j / 16]? with
    | none => rw [hr] at h; cases h
    | some r =>
      rw [hr] at h
      exact xML_all r (List.mem_of_getElem? hr) N (List.mem_of_getElem? h)
  rw [Bool.and_eq_true, Bool.and_eq_true] at hg
  exact ⟨hg.1, fun pc q hq => xokb_ok (of_decide_eq_true hg.2.1) ⟨rfl, rfl, rfl⟩ x_arrs x_oi xFL_ok xMV_ok xMS_ok xMI_ok xOI_ok xCL_ok xAL_ok xKI_ok xKL_ok xGS_ok (xtabb_ok hg.2.2 hq)⟩
end
section
/-! ===== the law as a method of the machine ===== -/
def xmL : XM := (x, code, 4, some .boolean, 9, 322, 600000, 7302250, 11, [[some (.new 7, 9, 0, 0), none, none, some (.dup, 0, 0, 0), some (.invokespecial 9, 0, 1, 0), none, none, some (.astore_n 1, 0, 0, 0), some (.new 10, 10, 0, 0), none, none, some (.dup, 0, 0, 0), some (.invokespecial 12, 157, 1, 0), none, none, some (.astore_n 2, 0, 0, 0)],
  [some (.iconst 0, 0, 0, 0), some (.istore_n 3, 0, 0, 0), some (.iload_n 3, 0, 0, 0), some (.aload_n 0, 0, 0, 0), some (.arraylength, 0, 0, 0), some (.bipush 6, 0, 0, 6), none, some (.isub, 0, 0, 0), some (.if_icmp .gt 1669, 1693, 0, 0), none, none, some (.aload_n 0, 0, 0, 0), some (.iload_n 3, 0, 0, 0), some (.iaload, 0, 0, 0), some (.bipush 63, 0, 0, 63), none],
  [some (.iand, 0, 0, 0), some (.tableswitch 1654 0 46 #[203, 236, 279, 302, 365, 388, 421, 464, 513, 566, 599, 632, 655, 678, 731, 764, 797, 820, 853, 866, 889, 922, 945, 968, 1001, 1044, 1077, 1110, 1143, 1196, 1239, 1262, 1295, 1328, 1351, 1394, 1417, 1450, 1483, 1526, 1539, 1553, 1567, 1581, 1604, 1617, 1640], 0, 0, 0), none, none, none, none, none, none, none, none, none, none, none, none, none, none],
  [none, none, none, none, none, none, none, none, none, none, none, none, none, none, none, none],
  [none, none, none, none, none, none, none, none, none, none, none, none, none, none, none, none],
  [none, none, none, none, none, none, none, none, none, none, none, none, none, none, none, none],
  [none, none, none, none, none, none, none, none, none, none, none, none, none, none, none, none],
  [none, none, none, none, none, none, none, none, none, none, none, none, none, none, none, none],
  [none, none, none, none, none, none, none, none, none, none, none, none, none, none, none, none],
  [none, none, none, none, none, none, none, none, none, none, none, none, none, none, none, none],
  [none, none, none, none, none, none, none, none, none, none, none, none, none, none, none, none],
  [none, none, none, none, none, none, none, none, none, none, none, none, none, none, none, none],
  [none, none, none, none, none, none, none, none, none, none, none, none, none, none, none, none],
  [none, none, none, none, none, none, none, none, none, none, none, none, none, none, none, none],
  [none, none, none, none, none, none, none, none, none, none, none, none, some (.aload_n 1, 0, 0, 0), some (.aload_n 0, 0, 0, 0), some (.iload_n 3, 0, 0, 0), some (.iconst 1, 0, 0, 1)],
  [some (.iadd, 0, 0, 0), some (.iaload, 0, 0, 0), some (.aload_n 0, 0, 0, 0), some (.iload_n 3, 0, 0, 0), some (.iconst 2, 0, 0, 2), some (.iadd, 0, 0, 0), some (.iaload, 0, 0, 0), some (.invokevirtual 13, 8, 3, 0), none, none, some (.aload_n 2, 0, 0, 0), some (.aload_n 0, 0, 0, 0), some (.iload_n 3, 0, 0, 0), some (.iconst 1, 0, 0, 1), some (.iadd, 0, 0, 0), some (.iaload, 0, 0, 0)],
  [some (.aload_n 0, 0, 0, 0), some (.iload_n 3, 0, 0, 0), some (.iconst 2, 0, 0, 2), some (.iadd, 0, 0, 0), some (.iaload, 0, 0, 0), some (.invokevirtual 17, 158, 3, 0), none, none, some (.if_icmp .eq 1423, 1687, 0, 0), none, none, some (.iconst 0, 0, 0, 0), some (.ireturn, 0, 0, 0), some (.aload_n 1, 0, 0, 0), some (.aload_n 0, 0, 0, 0), some (.iload_n 3, 0, 0, 0)],
  [some (.iconst 1, 0, 0, 1), some (.iadd, 0, 0, 0), some (.iaload, 0, 0, 0), some (.aload_n 0, 0, 0, 0), some (.iload_n 3, 0, 0, 0), some (.iconst 2, 0, 0, 2), some (.iadd, 0, 0, 0), some (.iaload, 0, 0, 0), some (.aload_n 0, 0, 0, 0), some (.iload_n 3, 0, 0, 0), some (.iconst 3, 0, 0, 3), some (.iadd, 0, 0, 0), some (.iaload, 0, 0, 0), some (.invokevirtual 18, 12, 4, 0), none, none],
  [some (.aload_n 2, 0, 0, 0), some (.aload_n 0, 0, 0, 0), some (.iload_n 3, 0, 0, 0), some (.iconst 1, 0, 0, 1), some (.iadd, 0, 0, 0), some (.iaload, 0, 0, 0), some (.aload_n 0, 0, 0, 0), some (.iload_n 3, 0, 0, 0), some (.iconst 2, 0, 0, 2), some (.iadd, 0, 0, 0), some (.iaload, 0, 0, 0), some (.aload_n 0, 0, 0, 0), some (.iload_n 3, 0, 0, 0), some (.iconst 3, 0, 0, 3), some (.iadd, 0, 0, 0), some (.iaload, 0, 0, 0)],
  [some (.invokevirtual 22, 162, 4, 0), none, none, some (.if_icmp .eq 1380, 1687, 0, 0), none, none, some (.iconst 0, 0, 0, 0), some (.ireturn, 0, 0, 0), some (.aload_n 1, 0, 0, 0), some (.aload_n 0, 0, 0, 0), some (.iload_n 3, 0, 0, 0), some (.iconst 1, 0, 0, 1), some (.iadd, 0, 0, 0), some (.iaload, 0, 0, 0), some (.invokevirtual 23, 16, 2, 0), none],
  [none, some (.aload_n 2, 0, 0, 0), some (.aload_n 0, 0, 0, 0), some (.iload_n 3, 0, 0, 0), some (.iconst 1, 0, 0, 1), some (.iadd, 0, 0, 0), some (.iaload, 0, 0, 0), some (.invokevirtual 27, 165, 2, 0), none, none, some (.if_icmp .eq 1357, 1687, 0, 0), none, none, some (.iconst 0, 0, 0, 0), some (.ireturn, 0, 0, 0), some (.aload_n 1, 0, 0, 0)],
  [some (.aload_n 0, 0, 0, 0), some (.iload_n 3, 0, 0, 0), some (.iconst 1, 0, 0, 1), some (.iadd, 0, 0, 0), some (.iaload, 0, 0, 0), some (.aload_n 0, 0, 0, 0), some (.iload_n 3, 0, 0, 0), some (.iconst 2, 0, 0, 2), some (.iadd, 0, 0, 0), some (.iaload, 0, 0, 0), some (.aload_n 0, 0, 0, 0), some (.iload_n 3, 0, 0, 0), some (.iconst 3, 0, 0, 3), some (.iadd, 0, 0, 0), some (.iaload, 0, 0, 0), some (.aload_n 0, 0, 0, 0)],
  [some (.iload_n 3, 0, 0, 0), some (.iconst 4, 0, 0, 4), some (.iadd, 0, 0, 0), some (.iaload, 0, 0, 0), some (.aload_n 0, 0, 0, 0), some (.iload_n 3, 0, 0, 0), some (.iconst 5, 0, 0, 5), some (.iadd, 0, 0, 0), some (.iaload, 0, 0, 0), some (.invokevirtual 28, 17, 6, 0), none, none, some (.aload_n 2, 0, 0, 0), some (.aload_n 0, 0, 0, 0), some (.iload_n 3, 0, 0, 0), some (.iconst 1, 0, 0, 1)],
  [some (.iadd, 0, 0, 0), some (.iaload, 0, 0, 0), some (.aload_n 0, 0, 0, 0), some (.iload_n 3, 0, 0, 0), some (.iconst 2, 0, 0, 2), some (.iadd, 0, 0, 0), some (.iaload, 0, 0, 0), some (.aload_n 0, 0, 0, 0), some (.iload_n 3, 0, 0, 0), some (.iconst 3, 0, 0, 3), some (.iadd, 0, 0, 0), some (.iaload, 0, 0, 0), some (.aload_n 0, 0, 0, 0), some (.iload_n 3, 0, 0, 0), some (.iconst 4, 0, 0, 4), some (.iadd, 0, 0, 0)],
  [some (.iaload, 0, 0, 0), some (.aload_n 0, 0, 0, 0), some (.iload_n 3, 0, 0, 0), some (.iconst 5, 0, 0, 5), some (.iadd, 0, 0, 0), some (.iaload, 0, 0, 0), some (.invokevirtual 32, 166, 6, 0), none, none, some (.if_icmp .eq 1294, 1687, 0, 0), none, none, some (.iconst 0, 0, 0, 0), some (.ireturn, 0, 0, 0), some (.aload_n 1, 0, 0, 0), some (.aload_n 0, 0, 0, 0)],
  [some (.iload_n 3, 0, 0, 0), some (.iconst 1, 0, 0, 1), some (.iadd, 0, 0, 0), some (.iaload, 0, 0, 0), some (.invokevirtual 33, 18, 2, 0), none, none, some (.aload_n 2, 0, 0, 0), some (.aload_n 0, 0, 0, 0), some (.iload_n 3, 0, 0, 0), some (.iconst 1, 0, 0, 1), some (.iadd, 0, 0, 0), some (.iaload, 0, 0, 0), some (.invokevirtual 36, 167, 2, 0), none, none],
  [some (.if_icmp .eq 1271, 1687, 0, 0), none, none, some (.iconst 0, 0, 0, 0), some (.ireturn, 0, 0, 0), some (.aload_n 1, 0, 0, 0), some (.aload_n 0, 0, 0, 0), some (.iload_n 3, 0, 0, 0), some (.iconst 1, 0, 0, 1), some (.iadd, 0, 0, 0), some (.iaload, 0, 0, 0), some (.aload_n 0, 0, 0, 0), some (.iload_n 3, 0, 0, 0), some (.iconst 2, 0, 0, 2), some (.iadd, 0, 0, 0), some (.iaload, 0, 0, 0)],
  [some (.invokevirtual 37, 19, 3, 0), none, none, some (.aload_n 2, 0, 0, 0), some (.aload_n 0, 0, 0, 0), some (.iload_n 3, 0, 0, 0), some (.iconst 1, 0, 0, 1), some (.iadd, 0, 0, 0), some (.iaload, 0, 0, 0), some (.aload_n 0, 0, 0, 0), some (.iload_n 3, 0, 0, 0), some (.iconst 2, 0, 0, 2), some (.iadd, 0, 0, 0), some (.iaload, 0, 0, 0), some (.invokevirtual 40, 169, 3, 0), none],
  [none, some (.if_icmp .eq 1238, 1687, 0, 0), none, none, some (.iconst 0, 0, 0, 0), some (.ireturn, 0, 0, 0), some (.aload_n 1, 0, 0, 0), some (.aload_n 0, 0, 0, 0), some (.iload_n 3, 0, 0, 0), some (.iconst 1, 0, 0, 1), some (.iadd, 0, 0, 0), some (.iaload, 0, 0, 0), some (.aload_n 0, 0, 0, 0), some (.iload_n 3, 0, 0, 0), some (.iconst 2, 0, 0, 2), some (.iadd, 0, 0, 0)],
  [some (.iaload, 0, 0, 0), some (.aload_n 0, 0, 0, 0), some (.iload_n 3, 0, 0, 0), some (.iconst 3, 0, 0, 3), some (.iadd, 0, 0, 0), some (.iaload, 0, 0, 0), some (.invokevirtual 41, 21, 4, 0), none, none, some (.aload_n 2, 0, 0, 0), some (.aload_n 0, 0, 0, 0), some (.iload_n 3, 0, 0, 0), some (.iconst 1, 0, 0, 1), some (.iadd, 0, 0, 0), some (.iaload, 0, 0, 0), some (.aload_n 0, 0, 0, 0)],
  [some (.iload_n 3, 0, 0, 0), some (.iconst 2, 0, 0, 2), some (.iadd, 0, 0, 0), some (.iaload, 0, 0, 0), some (.aload_n 0, 0, 0, 0), some (.iload_n 3, 0, 0, 0), some (.iconst 3, 0, 0, 3), some (.iadd, 0, 0, 0), some (.iaload, 0, 0, 0), some (.invokevirtual 44, 171, 4, 0), none, none, some (.if_icmp .eq 1195, 1687, 0, 0), none, none, some (.iconst 0, 0, 0, 0)],
  [some (.ireturn, 0, 0, 0), some (.aload_n 1, 0, 0, 0), some (.aload_n 0, 0, 0, 0), some (.iload_n 3, 0, 0, 0), some (.iconst 1, 0, 0, 1), some (.iadd, 0, 0, 0), some (.iaload, 0, 0, 0), some (.aload_n 0, 0, 0, 0), some (.iload_n 3, 0, 0, 0), some (.iconst 2, 0, 0, 2), some (.iadd, 0, 0, 0), some (.iaload, 0, 0, 0), some (.ifCond .eq 7, 515, 0, 0), none, none, some (.iconst 1, 0, 0, 1)],
  [some (.goto 4, 516, 0, 0), none, none, some (.iconst 0, 0, 0, 0), some (.invokevirtual 45, 22, 3, 0), none, none, some (.aload_n 2, 0, 0, 0), some (.aload_n 0, 0, 0, 0), some (.iload_n 3, 0, 0, 0), some (.iconst 1, 0, 0, 1), some (.iadd, 0, 0, 0), some (.iaload, 0, 0, 0), some (.aload_n 0, 0, 0, 0), some (.iload_n 3, 0, 0, 0), some (.iconst 2, 0, 0, 2)],
  [some (.iadd, 0, 0, 0), some (.iaload, 0, 0, 0), some (.ifCond .eq 7, 537, 0, 0), none, none, some (.iconst 1, 0, 0, 1), some (.goto 4, 538, 0, 0), none, none, some (.iconst 0, 0, 0, 0), some (.invokevirtual 49, 173, 3, 0), none, none, some (.if_icmp .eq 1146, 1687, 0, 0), none, none],
  [some (.iconst 0, 0, 0, 0), some (.ireturn, 0, 0, 0), some (.aload_n 1, 0, 0, 0), some (.aload_n 0, 0, 0, 0), some (.iload_n 3, 0, 0, 0), some (.iconst 1, 0, 0, 1), some (.iadd, 0, 0, 0), some (.iaload, 0, 0, 0), some (.aload_n 0, 0, 0, 0), some (.iload_n 3, 0, 0, 0), some (.iconst 2, 0, 0, 2), some (.iadd, 0, 0, 0), some (.iaload, 0, 0, 0), some (.aload_n 0, 0, 0, 0), some (.iload_n 3, 0, 0, 0), some (.iconst 3, 0, 0, 3)],
  [some (.iadd, 0, 0, 0), some (.iaload, 0, 0, 0), some (.aload_n 0, 0, 0, 0), some (.iload_n 3, 0, 0, 0), some (.iconst 4, 0, 0, 4), some (.iadd, 0, 0, 0), some (.iaload, 0, 0, 0), some (.invokevirtual 50, 28, 5, 0), none, none, some (.aload_n 2, 0, 0, 0), some (.aload_n 0, 0, 0, 0), some (.iload_n 3, 0, 0, 0), some (.iconst 1, 0, 0, 1), some (.iadd, 0, 0, 0), some (.iaload, 0, 0, 0)],
  [some (.aload_n 0, 0, 0, 0), some (.iload_n 3, 0, 0, 0), some (.iconst 2, 0, 0, 2), some (.iadd, 0, 0, 0), some (.iaload, 0, 0, 0), some (.aload_n 0, 0, 0, 0), some (.iload_n 3, 0, 0, 0), some (.iconst 3, 0, 0, 3), some (.iadd, 0, 0, 0), some (.iaload, 0, 0, 0), some (.aload_n 0, 0, 0, 0), some (.iload_n 3, 0, 0, 0), some (.iconst 4, 0, 0, 4), some (.iadd, 0, 0, 0), some (.iaload, 0, 0, 0), some (.invokevirtual 54, 176, 5, 0)],
  [none, none, some (.if_icmp .eq 1093, 1687, 0, 0), none, none, some (.iconst 0, 0, 0, 0), some (.ireturn, 0, 0, 0), some (.aload_n 1, 0, 0, 0), some (.aload_n 0, 0, 0, 0), some (.iload_n 3, 0, 0, 0), some (.iconst 1, 0, 0, 1), some (.iadd, 0, 0, 0), some (.iaload, 0, 0, 0), some (.aload_n 0, 0, 0, 0), some (.iload_n 3, 0, 0, 0), some (.iconst 2, 0, 0, 2)],
  [some (.iadd, 0, 0, 0), some (.iaload, 0, 0, 0), some (.invokevirtual 55, 32, 3, 0), none, none, some (.aload_n 2, 0, 0, 0), some (.aload_n 0, 0, 0, 0), some (.iload_n 3, 0, 0, 0), some (.iconst 1, 0, 0, 1), some (.iadd, 0, 0, 0), some (.iaload, 0, 0, 0), some (.aload_n 0, 0, 0, 0), some (.iload_n 3, 0, 0, 0), some (.iconst 2, 0, 0, 2), some (.iadd, 0, 0, 0), some (.iaload, 0, 0, 0)],
  [some (.invokevirtual 58, 179, 3, 0), none, none, some (.if_icmp .eq 1060, 1687, 0, 0), none, none, some (.iconst 0, 0, 0, 0), some (.ireturn, 0, 0, 0), some (.aload_n 1, 0, 0, 0), some (.aload_n 0, 0, 0, 0), some (.iload_n 3, 0, 0, 0), some (.iconst 1, 0, 0, 1), some (.iadd, 0, 0, 0), some (.iaload, 0, 0, 0), some (.aload_n 0, 0, 0, 0), some (.iload_n 3, 0, 0, 0)],
  [some (.iconst 2, 0, 0, 2), some (.iadd, 0, 0, 0), some (.iaload, 0, 0, 0), some (.invokevirtual 59, 34, 3, 0), none, none, some (.aload_n 2, 0, 0, 0), some (.aload_n 0, 0, 0, 0), some (.iload_n 3, 0, 0, 0), some (.iconst 1, 0, 0, 1), some (.iadd, 0, 0, 0), some (.iaload, 0, 0, 0), some (.aload_n 0, 0, 0, 0), some (.iload_n 3, 0, 0, 0), some (.iconst 2, 0, 0, 2), some (.iadd, 0, 0, 0)],
  [some (.iaload, 0, 0, 0), some (.invokevirtual 62, 181, 3, 0), none, none, some (.if_icmp .eq 1027, 1687, 0, 0), none, none, some (.iconst 0, 0, 0, 0), some (.ireturn, 0, 0, 0), some (.aload_n 1, 0, 0, 0), some (.aload_n 0, 0, 0, 0), some (.iload_n 3, 0, 0, 0), some (.iconst 1, 0, 0, 1), some (.iadd, 0, 0, 0), some (.iaload, 0, 0, 0), some (.invokevirtual 63, 35, 2, 0)],
  [none, none, some (.aload_n 2, 0, 0, 0), some (.aload_n 0, 0, 0, 0), some (.iload_n 3, 0, 0, 0), some (.iconst 1, 0, 0, 1), some (.iadd, 0, 0, 0), some (.iaload, 0, 0, 0), some (.invokevirtual 66, 182, 2, 0), none, none, some (.if_icmp .eq 1004, 1687, 0, 0), none, none, some (.iconst 0, 0, 0, 0), some (.ireturn, 0, 0, 0)],
  [some (.aload_n 1, 0, 0, 0), some (.aload_n 0, 0, 0, 0), some (.iload_n 3, 0, 0, 0), some (.iconst 1, 0, 0, 1), some (.iadd, 0, 0, 0), some (.iaload, 0, 0, 0), some (.invokevirtual 67, 36, 2, 0), none, none, some (.aload_n 2, 0, 0, 0), some (.aload_n 0, 0, 0, 0), some (.iload_n 3, 0, 0, 0), some (.iconst 1, 0, 0, 1), some (.iadd, 0, 0, 0), some (.iaload, 0, 0, 0), some (.invokevirtual 70, 183, 2, 0)],
  [none, none, some (.if_icmp .eq 981, 1687, 0, 0), none, none, some (.iconst 0, 0, 0, 0), some (.ireturn, 0, 0, 0), some (.aload_n 1, 0, 0, 0), some (.aload_n 0, 0, 0, 0), some (.iload_n 3, 0, 0, 0), some (.iconst 1, 0, 0, 1), some (.iadd, 0, 0, 0), some (.iaload, 0, 0, 0), some (.aload_n 0, 0, 0, 0), some (.iload_n 3, 0, 0, 0), some (.iconst 2, 0, 0, 2)],
  [some (.iadd, 0, 0, 0), some (.iaload, 0, 0, 0), some (.aload_n 0, 0, 0, 0), some (.iload_n 3, 0, 0, 0), some (.iconst 3, 0, 0, 3), some (.iadd, 0, 0, 0), some (.iaload, 0, 0, 0), some (.aload_n 0, 0, 0, 0), some (.iload_n 3, 0, 0, 0), some (.iconst 4, 0, 0, 4), some (.iadd, 0, 0, 0), some (.iaload, 0, 0, 0), some (.invokevirtual 71, 37, 5, 0), none, none, some (.aload_n 2, 0, 0, 0)],
  [some (.aload_n 0, 0, 0, 0), some (.iload_n 3, 0, 0, 0), some (.iconst 1, 0, 0, 1), some (.iadd, 0, 0, 0), some (.iaload, 0, 0, 0), some (.aload_n 0, 0, 0, 0), some (.iload_n 3, 0, 0, 0), some (.iconst 2, 0, 0, 2), some (.iadd, 0, 0, 0), some (.iaload, 0, 0, 0), some (.aload_n 0, 0, 0, 0), some (.iload_n 3, 0, 0, 0), some (.iconst 3, 0, 0, 3), some (.iadd, 0, 0, 0), some (.iaload, 0, 0, 0), some (.aload_n 0, 0, 0, 0)],
  [some (.iload_n 3, 0, 0, 0), some (.iconst 4, 0, 0, 4), some (.iadd, 0, 0, 0), some (.iaload, 0, 0, 0), some (.invokevirtual 74, 187, 5, 0), none, none, some (.if_icmp .eq 928, 1687, 0, 0), none, none, some (.iconst 0, 0, 0, 0), some (.ireturn, 0, 0, 0), some (.aload_n 1, 0, 0, 0), some (.aload_n 0, 0, 0, 0), some (.iload_n 3, 0, 0, 0), some (.iconst 1, 0, 0, 1)],
  [some (.iadd, 0, 0, 0), some (.iaload, 0, 0, 0), some (.aload_n 0, 0, 0, 0), some (.iload_n 3, 0, 0, 0), some (.iconst 2, 0, 0, 2), some (.iadd, 0, 0, 0), some (.iaload, 0, 0, 0), some (.invokevirtual 75, 41, 3, 0), none, none, some (.aload_n 2, 0, 0, 0), some (.aload_n 0, 0, 0, 0), some (.iload_n 3, 0, 0, 0), some (.iconst 1, 0, 0, 1), some (.iadd, 0, 0, 0), some (.iaload, 0, 0, 0)],
  [some (.aload_n 0, 0, 0, 0), some (.iload_n 3, 0, 0, 0), some (.iconst 2, 0, 0, 2), some (.iadd, 0, 0, 0), some (.iaload, 0, 0, 0), some (.invokevirtual 78, 189, 3, 0), none, none, some (.if_icmp .eq 895, 1687, 0, 0), none, none, some (.iconst 0, 0, 0, 0), some (.ireturn, 0, 0, 0), some (.aload_n 1, 0, 0, 0), some (.aload_n 0, 0, 0, 0), some (.iload_n 3, 0, 0, 0)],
  [some (.iconst 1, 0, 0, 1), some (.iadd, 0, 0, 0), some (.iaload, 0, 0, 0), some (.aload_n 0, 0, 0, 0), some (.iload_n 3, 0, 0, 0), some (.iconst 2, 0, 0, 2), some (.iadd, 0, 0, 0), some (.iaload, 0, 0, 0), some (.invokevirtual 79, 45, 3, 0), none, none, some (.aload_n 2, 0, 0, 0), some (.aload_n 0, 0, 0, 0), some (.iload_n 3, 0, 0, 0), some (.iconst 1, 0, 0, 1), some (.iadd, 0, 0, 0)],
  [some (.iaload, 0, 0, 0), some (.aload_n 0, 0, 0, 0), some (.iload_n 3, 0, 0, 0), some (.iconst 2, 0, 0, 2), some (.iadd, 0, 0, 0), some (.iaload, 0, 0, 0), some (.invokevirtual 82, 194, 3, 0), none, none, some (.if_icmp .eq 862, 1687, 0, 0), none, none, some (.iconst 0, 0, 0, 0), some (.ireturn, 0, 0, 0), some (.aload_n 1, 0, 0, 0), some (.aload_n 0, 0, 0, 0)],
  [some (.iload_n 3, 0, 0, 0), some (.iconst 1, 0, 0, 1), some (.iadd, 0, 0, 0), some (.iaload, 0, 0, 0), some (.invokevirtual 83, 47, 2, 0), none, none, some (.aload_n 2, 0, 0, 0), some (.aload_n 0, 0, 0, 0), some (.iload_n 3, 0, 0, 0), some (.iconst 1, 0, 0, 1), some (.iadd, 0, 0, 0), some (.iaload, 0, 0, 0), some (.invokevirtual 86, 195, 2, 0), none, none],
  [some (.if_icmp .eq 839, 1687, 0, 0), none, none, some (.iconst 0, 0, 0, 0), some (.ireturn, 0, 0, 0), some (.aload_n 1, 0, 0, 0), some (.aload_n 0, 0, 0, 0), some (.iload_n 3, 0, 0, 0), some (.iconst 1, 0, 0, 1), some (.iadd, 0, 0, 0), some (.iaload, 0, 0, 0), some (.aload_n 0, 0, 0, 0), some (.iload_n 3, 0, 0, 0), some (.iconst 2, 0, 0, 2), some (.iadd, 0, 0, 0), some (.iaload, 0, 0, 0)],
  [some (.invokevirtual 87, 49, 3, 0), none, none, some (.aload_n 2, 0, 0, 0), some (.aload_n 0, 0, 0, 0), some (.iload_n 3, 0, 0, 0), some (.iconst 1, 0, 0, 1), some (.iadd, 0, 0, 0), some (.iaload, 0, 0, 0), some (.aload_n 0, 0, 0, 0), some (.iload_n 3, 0, 0, 0), some (.iconst 2, 0, 0, 2), some (.iadd, 0, 0, 0), some (.iaload, 0, 0, 0), some (.invokevirtual 90, 196, 3, 0), none],
  [none, some (.if_icmp .eq 806, 1687, 0, 0), none, none, some (.iconst 0, 0, 0, 0), some (.ireturn, 0, 0, 0), some (.aload_n 1, 0, 0, 0), some (.invokevirtual 91, 51, 1, 0), none, none, some (.aload_n 2, 0, 0, 0), some (.invokevirtual 95, 198, 1, 0), none, none, some (.if_icmp .eq 793, 1687, 0, 0), none],
  [none, some (.iconst 0, 0, 0, 0), some (.ireturn, 0, 0, 0), some (.aload_n 1, 0, 0, 0), some (.aload_n 0, 0, 0, 0), some (.iload_n 3, 0, 0, 0), some (.iconst 1, 0, 0, 1), some (.iadd, 0, 0, 0), some (.iaload, 0, 0, 0), some (.invokevirtual 96, 72, 2, 0), none, none, some (.aload_n 2, 0, 0, 0), some (.aload_n 0, 0, 0, 0), some (.iload_n 3, 0, 0, 0), some (.iconst 1, 0, 0, 1)],
  [some (.iadd, 0, 0, 0), some (.iaload, 0, 0, 0), some (.invokevirtual 99, 207, 2, 0), none, none, some (.if_icmp .eq 770, 1687, 0, 0), none, none, some (.iconst 0, 0, 0, 0), some (.ireturn, 0, 0, 0), some (.aload_n 1, 0, 0, 0), some (.aload_n 0, 0, 0, 0), some (.iload_n 3, 0, 0, 0), some (.iconst 1, 0, 0, 1), some (.iadd, 0, 0, 0), some (.iaload, 0, 0, 0)],
  [some (.aload_n 0, 0, 0, 0), some (.iload_n 3, 0, 0, 0), some (.iconst 2, 0, 0, 2), some (.iadd, 0, 0, 0), some (.iaload, 0, 0, 0), some (.invokevirtual 100, 74, 3, 0), none, none, some (.aload_n 2, 0, 0, 0), some (.aload_n 0, 0, 0, 0), some (.iload_n 3, 0, 0, 0), some (.iconst 1, 0, 0, 1), some (.iadd, 0, 0, 0), some (.iaload, 0, 0, 0), some (.aload_n 0, 0, 0, 0), some (.iload_n 3, 0, 0, 0)],
  [some (.iconst 2, 0, 0, 2), some (.iadd, 0, 0, 0), some (.iaload, 0, 0, 0), some (.invokevirtual 103, 208, 3, 0), none, none, some (.if_icmp .eq 737, 1687, 0, 0), none, none, some (.iconst 0, 0, 0, 0), some (.ireturn, 0, 0, 0), some (.aload_n 1, 0, 0, 0), some (.aload_n 0, 0, 0, 0), some (.iload_n 3, 0, 0, 0), some (.iconst 1, 0, 0, 1), some (.iadd, 0, 0, 0)],
  [some (.iaload, 0, 0, 0), some (.invokevirtual 104, 76, 2, 0), none, none, some (.aload_n 2, 0, 0, 0), some (.aload_n 0, 0, 0, 0), some (.iload_n 3, 0, 0, 0), some (.iconst 1, 0, 0, 1), some (.iadd, 0, 0, 0), some (.iaload, 0, 0, 0), some (.invokevirtual 107, 211, 2, 0), none, none, some (.if_icmp .eq 714, 1687, 0, 0), none, none],
  [some (.iconst 0, 0, 0, 0), some (.ireturn, 0, 0, 0), some (.aload_n 1, 0, 0, 0), some (.aload_n 0, 0, 0, 0), some (.iload_n 3, 0, 0, 0), some (.iconst 1, 0, 0, 1), some (.iadd, 0, 0, 0), some (.iaload, 0, 0, 0), some (.invokevirtual 108, 78, 2, 0), none, none, some (.aload_n 2, 0, 0, 0), some (.aload_n 0, 0, 0, 0), some (.iload_n 3, 0, 0, 0), some (.iconst 1, 0, 0, 1), some (.iadd, 0, 0, 0)],
  [some (.iaload, 0, 0, 0), some (.invokevirtual 111, 212, 2, 0), none, none, some (.if_icmp .eq 691, 1687, 0, 0), none, none, some (.iconst 0, 0, 0, 0), some (.ireturn, 0, 0, 0), some (.aload_n 1, 0, 0, 0), some (.aload_n 0, 0, 0, 0), some (.iload_n 3, 0, 0, 0), some (.iconst 1, 0, 0, 1), some (.iadd, 0, 0, 0), some (.iaload, 0, 0, 0), some (.aload_n 0, 0, 0, 0)],
  [some (.iload_n 3, 0, 0, 0), some (.iconst 2, 0, 0, 2), some (.iadd, 0, 0, 0), some (.iaload, 0, 0, 0), some (.invokevirtual 112, 79, 3, 0), none, none, some (.aload_n 2, 0, 0, 0), some (.aload_n 0, 0, 0, 0), some (.iload_n 3, 0, 0, 0), some (.iconst 1, 0, 0, 1), some (.iadd, 0, 0, 0), some (.iaload, 0, 0, 0), some (.aload_n 0, 0, 0, 0), some (.iload_n 3, 0, 0, 0), some (.iconst 2, 0, 0, 2)],
  [some (.iadd, 0, 0, 0), some (.iaload, 0, 0, 0), some (.invokevirtual 115, 184, 3, 0), none, none, some (.if_icmp .eq 658, 1687, 0, 0), none, none, some (.iconst 0, 0, 0, 0), some (.ireturn, 0, 0, 0), some (.aload_n 1, 0, 0, 0), some (.aload_n 0, 0, 0, 0), some (.iload_n 3, 0, 0, 0), some (.iconst 1, 0, 0, 1), some (.iadd, 0, 0, 0), some (.iaload, 0, 0, 0)],
  [some (.aload_n 0, 0, 0, 0), some (.iload_n 3, 0, 0, 0), some (.iconst 2, 0, 0, 2), some (.iadd, 0, 0, 0), some (.iaload, 0, 0, 0), some (.aload_n 0, 0, 0, 0), some (.iload_n 3, 0, 0, 0), some (.iconst 3, 0, 0, 3), some (.iadd, 0, 0, 0), some (.iaload, 0, 0, 0), some (.invokevirtual 116, 82, 4, 0), none, none, some (.aload_n 2, 0, 0, 0), some (.aload_n 0, 0, 0, 0), some (.iload_n 3, 0, 0, 0)],
  [some (.iconst 1, 0, 0, 1), some (.iadd, 0, 0, 0), some (.iaload, 0, 0, 0), some (.aload_n 0, 0, 0, 0), some (.iload_n 3, 0, 0, 0), some (.iconst 2, 0, 0, 2), some (.iadd, 0, 0, 0), some (.iaload, 0, 0, 0), some (.aload_n 0, 0, 0, 0), some (.iload_n 3, 0, 0, 0), some (.iconst 3, 0, 0, 3), some (.iadd, 0, 0, 0), some (.iaload, 0, 0, 0), some (.invokevirtual 119, 213, 4, 0), none, none],
  [some (.if_icmp .eq 615, 1687, 0, 0), none, none, some (.iconst 0, 0, 0, 0), some (.ireturn, 0, 0, 0), some (.aload_n 1, 0, 0, 0), some (.aload_n 0, 0, 0, 0), some (.iload_n 3, 0, 0, 0), some (.iconst 1, 0, 0, 1), some (.iadd, 0, 0, 0), some (.iaload, 0, 0, 0), some (.aload_n 0, 0, 0, 0), some (.iload_n 3, 0, 0, 0), some (.iconst 2, 0, 0, 2), some (.iadd, 0, 0, 0), some (.iaload, 0, 0, 0)],
  [some (.invokevirtual 120, 87, 3, 0), none, none, some (.aload_n 2, 0, 0, 0), some (.aload_n 0, 0, 0, 0), some (.iload_n 3, 0, 0, 0), some (.iconst 1, 0, 0, 1), some (.iadd, 0, 0, 0), some (.iaload, 0, 0, 0), some (.aload_n 0, 0, 0, 0), some (.iload_n 3, 0, 0, 0), some (.iconst 2, 0, 0, 2), some (.iadd, 0, 0, 0), some (.iaload, 0, 0, 0), some (.invokevirtual 123, 215, 3, 0), none],
  [none, some (.if_icmp .eq 582, 1687, 0, 0), none, none, some (.iconst 0, 0, 0, 0), some (.ireturn, 0, 0, 0), some (.aload_n 1, 0, 0, 0), some (.aload_n 0, 0, 0, 0), some (.iload_n 3, 0, 0, 0), some (.iconst 1, 0, 0, 1), some (.iadd, 0, 0, 0), some (.iaload, 0, 0, 0), some (.aload_n 0, 0, 0, 0), some (.iload_n 3, 0, 0, 0), some (.iconst 2, 0, 0, 2), some (.iadd, 0, 0, 0)],
  [some (.iaload, 0, 0, 0), some (.invokevirtual 124, 90, 3, 0), none, none, some (.aload_n 2, 0, 0, 0), some (.aload_n 0, 0, 0, 0), some (.iload_n 3, 0, 0, 0), some (.iconst 1, 0, 0, 1), some (.iadd, 0, 0, 0), some (.iaload, 0, 0, 0), some (.aload_n 0, 0, 0, 0), some (.iload_n 3, 0, 0, 0), some (.iconst 2, 0, 0, 2), some (.iadd, 0, 0, 0), some (.iaload, 0, 0, 0), some (.invokevirtual 127, 218, 3, 0)],
  [none, none, some (.if_icmp .eq 549, 1687, 0, 0), none, none, some (.iconst 0, 0, 0, 0), some (.ireturn, 0, 0, 0), some (.aload_n 1, 0, 0, 0), some (.aload_n 0, 0, 0, 0), some (.iload_n 3, 0, 0, 0), some (.iconst 1, 0, 0, 1), some (.iadd, 0, 0, 0), some (.iaload, 0, 0, 0), some (.aload_n 0, 0, 0, 0), some (.iload_n 3, 0, 0, 0), some (.iconst 2, 0, 0, 2)],
  [some (.iadd, 0, 0, 0), some (.iaload, 0, 0, 0), some (.invokevirtual 128, 93, 3, 0), none, none, some (.aload_n 2, 0, 0, 0), some (.aload_n 0, 0, 0, 0), some (.iload_n 3, 0, 0, 0), some (.iconst 1, 0, 0, 1), some (.iadd, 0, 0, 0), some (.iaload, 0, 0, 0), some (.aload_n 0, 0, 0, 0), some (.iload_n 3, 0, 0, 0), some (.iconst 2, 0, 0, 2), some (.iadd, 0, 0, 0), some (.iaload, 0, 0, 0)],
  [some (.invokevirtual 131, 219, 3, 0), none, none, some (.if_icmp .eq 516, 1687, 0, 0), none, none, some (.iconst 0, 0, 0, 0), some (.ireturn, 0, 0, 0), some (.aload_n 1, 0, 0, 0), some (.aload_n 0, 0, 0, 0), some (.iload_n 3, 0, 0, 0), some (.iconst 1, 0, 0, 1), some (.iadd, 0, 0, 0), some (.iaload, 0, 0, 0), some (.aload_n 0, 0, 0, 0), some (.iload_n 3, 0, 0, 0)],
  [some (.iconst 2, 0, 0, 2), some (.iadd, 0, 0, 0), some (.iaload, 0, 0, 0), some (.aload_n 0, 0, 0, 0), some (.iload_n 3, 0, 0, 0), some (.iconst 3, 0, 0, 3), some (.iadd, 0, 0, 0), some (.iaload, 0, 0, 0), some (.aload_n 0, 0, 0, 0), some (.iload_n 3, 0, 0, 0), some (.iconst 4, 0, 0, 4), some (.iadd, 0, 0, 0), some (.iaload, 0, 0, 0), some (.invokevirtual 132, 94, 5, 0), none, none],
  [some (.aload_n 2, 0, 0, 0), some (.aload_n 0, 0, 0, 0), some (.iload_n 3, 0, 0, 0), some (.iconst 1, 0, 0, 1), some (.iadd, 0, 0, 0), some (.iaload, 0, 0, 0), some (.aload_n 0, 0, 0, 0), some (.iload_n 3, 0, 0, 0), some (.iconst 2, 0, 0, 2), some (.iadd, 0, 0, 0), some (.iaload, 0, 0, 0), some (.aload_n 0, 0, 0, 0), some (.iload_n 3, 0, 0, 0), some (.iconst 3, 0, 0, 3), some (.iadd, 0, 0, 0), some (.iaload, 0, 0, 0)],
  [some (.aload_n 0, 0, 0, 0), some (.iload_n 3, 0, 0, 0), some (.iconst 4, 0, 0, 4), some (.iadd, 0, 0, 0), some (.iaload, 0, 0, 0), some (.invokevirtual 135, 220, 5, 0), none, none, some (.if_icmp .eq 463, 1687, 0, 0), none, none, some (.iconst 0, 0, 0, 0), some (.ireturn, 0, 0, 0), some (.aload_n 1, 0, 0, 0), some (.aload_n 0, 0, 0, 0), some (.iload_n 3, 0, 0, 0)],
  [some (.iconst 1, 0, 0, 1), some (.iadd, 0, 0, 0), some (.iaload, 0, 0, 0), some (.aload_n 0, 0, 0, 0), some (.iload_n 3, 0, 0, 0), some (.iconst 2, 0, 0, 2), some (.iadd, 0, 0, 0), some (.iaload, 0, 0, 0), some (.aload_n 0, 0, 0, 0), some (.iload_n 3, 0, 0, 0), some (.iconst 3, 0, 0, 3), some (.iadd, 0, 0, 0), some (.iaload, 0, 0, 0), some (.invokevirtual 136, 100, 4, 0), none, none],
  [some (.aload_n 2, 0, 0, 0), some (.aload_n 0, 0, 0, 0), some (.iload_n 3, 0, 0, 0), some (.iconst 1, 0, 0, 1), some (.iadd, 0, 0, 0), some (.iaload, 0, 0, 0), some (.aload_n 0, 0, 0, 0), some (.iload_n 3, 0, 0, 0), some (.iconst 2, 0, 0, 2), some (.iadd, 0, 0, 0), some (.iaload, 0, 0, 0), some (.aload_n 0, 0, 0, 0), some (.iload_n 3, 0, 0, 0), some (.iconst 3, 0, 0, 3), some (.iadd, 0, 0, 0), some (.iaload, 0, 0, 0)],
  [some (.invokevirtual 139, 224, 4, 0), none, none, some (.if_icmp .eq 420, 1687, 0, 0), none, none, some (.iconst 0, 0, 0, 0), some (.ireturn, 0, 0, 0), some (.aload_n 1, 0, 0, 0), some (.aload_n 0, 0, 0, 0), some (.iload_n 3, 0, 0, 0), some (.iconst 1, 0, 0, 1), some (.iadd, 0, 0, 0), some (.iaload, 0, 0, 0), some (.invokevirtual 140, 103, 2, 0), none],
  [none, some (.aload_n 2, 0, 0, 0), some (.aload_n 0, 0, 0, 0), some (.iload_n 3, 0, 0, 0), some (.iconst 1, 0, 0, 1), some (.iadd, 0, 0, 0), some (.iaload, 0, 0, 0), some (.invokevirtual 143, 225, 2, 0), none, none, some (.if_icmp .eq 397, 1687, 0, 0), none, none, some (.iconst 0, 0, 0, 0), some (.ireturn, 0, 0, 0), some (.aload_n 1, 0, 0, 0)],
  [some (.aload_n 0, 0, 0, 0), some (.iload_n 3, 0, 0, 0), some (.iconst 1, 0, 0, 1), some (.iadd, 0, 0, 0), some (.iaload, 0, 0, 0), some (.aload_n 0, 0, 0, 0), some (.iload_n 3, 0, 0, 0), some (.iconst 2, 0, 0, 2), some (.iadd, 0, 0, 0), some (.iaload, 0, 0, 0), some (.invokevirtual 144, 108, 3, 0), none, none, some (.aload_n 2, 0, 0, 0), some (.aload_n 0, 0, 0, 0), some (.iload_n 3, 0, 0, 0)],
  [some (.iconst 1, 0, 0, 1), some (.iadd, 0, 0, 0), some (.iaload, 0, 0, 0), some (.aload_n 0, 0, 0, 0), some (.iload_n 3, 0, 0, 0), some (.iconst 2, 0, 0, 2), some (.iadd, 0, 0, 0), some (.iaload, 0, 0, 0), some (.invokevirtual 147, 228, 3, 0), none, none, some (.if_icmp .eq 364, 1687, 0, 0), none, none, some (.iconst 0, 0, 0, 0), some (.ireturn, 0, 0, 0)],
  [some (.aload_n 1, 0, 0, 0), some (.aload_n 0, 0, 0, 0), some (.iload_n 3, 0, 0, 0), some (.iconst 1, 0, 0, 1), some (.iadd, 0, 0, 0), some (.iaload, 0, 0, 0), some (.aload_n 0, 0, 0, 0), some (.iload_n 3, 0, 0, 0), some (.iconst 2, 0, 0, 2), some (.iadd, 0, 0, 0), some (.iaload, 0, 0, 0), some (.invokevirtual 148, 109, 3, 0), none, none, some (.aload_n 2, 0, 0, 0), some (.aload_n 0, 0, 0, 0)],
  [some (.iload_n 3, 0, 0, 0), some (.iconst 1, 0, 0, 1), some (.iadd, 0, 0, 0), some (.iaload, 0, 0, 0), some (.aload_n 0, 0, 0, 0), some (.iload_n 3, 0, 0, 0), some (.iconst 2, 0, 0, 2), some (.iadd, 0, 0, 0), some (.iaload, 0, 0, 0), some (.invokevirtual 151, 229, 3, 0), none, none, some (.if_icmp .eq 331, 1687, 0, 0), none, none, some (.iconst 0, 0, 0, 0)],
  [some (.ireturn, 0, 0, 0), some (.aload_n 1, 0, 0, 0), some (.aload_n 0, 0, 0, 0), some (.iload_n 3, 0, 0, 0), some (.iconst 1, 0, 0, 1), some (.iadd, 0, 0, 0), some (.iaload, 0, 0, 0), some (.invokevirtual 152, 110, 2, 0), none, none, some (.aload_n 2, 0, 0, 0), some (.aload_n 0, 0, 0, 0), some (.iload_n 3, 0, 0, 0), some (.iconst 1, 0, 0, 1), some (.iadd, 0, 0, 0), some (.iaload, 0, 0, 0)],
  [some (.invokevirtual 155, 230, 2, 0), none, none, some (.if_icmp .eq 308, 1687, 0, 0), none, none, some (.iconst 0, 0, 0, 0), some (.ireturn, 0, 0, 0), some (.aload_n 1, 0, 0, 0), some (.aload_n 0, 0, 0, 0), some (.iload_n 3, 0, 0, 0), some (.iconst 1, 0, 0, 1), some (.iadd, 0, 0, 0), some (.iaload, 0, 0, 0), some (.aload_n 0, 0, 0, 0), some (.iload_n 3, 0, 0, 0)],
  [some (.iconst 2, 0, 0, 2), some (.iadd, 0, 0, 0), some (.iaload, 0, 0, 0), some (.aload_n 0, 0, 0, 0), some (.iload_n 3, 0, 0, 0), some (.iconst 3, 0, 0, 3), some (.iadd, 0, 0, 0), some (.iaload, 0, 0, 0), some (.invokevirtual 156, 112, 4, 0), none, none, some (.aload_n 2, 0, 0, 0), some (.aload_n 0, 0, 0, 0), some (.iload_n 3, 0, 0, 0), some (.iconst 1, 0, 0, 1), some (.iadd, 0, 0, 0)],
  [some (.iaload, 0, 0, 0), some (.aload_n 0, 0, 0, 0), some (.iload_n 3, 0, 0, 0), some (.iconst 2, 0, 0, 2), some (.iadd, 0, 0, 0), some (.iaload, 0, 0, 0), some (.aload_n 0, 0, 0, 0), some (.iload_n 3, 0, 0, 0), some (.iconst 3, 0, 0, 3), some (.iadd, 0, 0, 0), some (.iaload, 0, 0, 0), some (.invokevirtual 159, 231, 4, 0), none, none, some (.if_icmp .eq 265, 1687, 0, 0), none],
  [none, some (.iconst 0, 0, 0, 0), some (.ireturn, 0, 0, 0), some (.aload_n 1, 0, 0, 0), some (.aload_n 0, 0, 0, 0), some (.iload_n 3, 0, 0, 0), some (.iconst 1, 0, 0, 1), some (.iadd, 0, 0, 0), some (.iaload, 0, 0, 0), some (.invokevirtual 160, 115, 2, 0), none, none, some (.aload_n 2, 0, 0, 0), some (.aload_n 0, 0, 0, 0), some (.iload_n 3, 0, 0, 0), some (.iconst 1, 0, 0, 1)],
  [some (.iadd, 0, 0, 0), some (.iaload, 0, 0, 0), some (.invokevirtual 163, 234, 2, 0), none, none, some (.if_icmp .eq 242, 1687, 0, 0), none, none, some (.iconst 0, 0, 0, 0), some (.ireturn, 0, 0, 0), some (.aload_n 1, 0, 0, 0), some (.aload_n 0, 0, 0, 0), some (.iload_n 3, 0, 0, 0), some (.iconst 1, 0, 0, 1), some (.iadd, 0, 0, 0), some (.iaload, 0, 0, 0)],
  [some (.aload_n 0, 0, 0, 0), some (.iload_n 3, 0, 0, 0), some (.iconst 2, 0, 0, 2), some (.iadd, 0, 0, 0), some (.iaload, 0, 0, 0), some (.invokevirtual 164, 116, 3, 0), none, none, some (.aload_n 2, 0, 0, 0), some (.aload_n 0, 0, 0, 0), some (.iload_n 3, 0, 0, 0), some (.iconst 1, 0, 0, 1), some (.iadd, 0, 0, 0), some (.iaload, 0, 0, 0), some (.aload_n 0, 0, 0, 0), some (.iload_n 3, 0, 0, 0)],
  [some (.iconst 2, 0, 0, 2), some (.iadd, 0, 0, 0), some (.iaload, 0, 0, 0), some (.invokevirtual 167, 235, 3, 0), none, none, some (.if_icmp .eq 209, 1687, 0, 0), none, none, some (.iconst 0, 0, 0, 0), some (.ireturn, 0, 0, 0), some (.aload_n 1, 0, 0, 0), some (.aload_n 0, 0, 0, 0), some (.iload_n 3, 0, 0, 0), some (.iconst 1, 0, 0, 1), some (.iadd, 0, 0, 0)],
  [some (.iaload, 0, 0, 0), some (.aload_n 0, 0, 0, 0), some (.iload_n 3, 0, 0, 0), some (.iconst 2, 0, 0, 2), some (.iadd, 0, 0, 0), some (.iaload, 0, 0, 0), some (.invokevirtual 168, 128, 3, 0), none, none, some (.aload_n 2, 0, 0, 0), some (.aload_n 0, 0, 0, 0), some (.iload_n 3, 0, 0, 0), some (.iconst 1, 0, 0, 1), some (.iadd, 0, 0, 0), some (.iaload, 0, 0, 0), some (.aload_n 0, 0, 0, 0)],
  [some (.iload_n 3, 0, 0, 0), some (.iconst 2, 0, 0, 2), some (.iadd, 0, 0, 0), some (.iaload, 0, 0, 0), some (.invokevirtual 171, 238, 3, 0), none, none, some (.if_icmp .eq 176, 1687, 0, 0), none, none, some (.iconst 0, 0, 0, 0), some (.ireturn, 0, 0, 0), some (.aload_n 1, 0, 0, 0), some (.aload_n 0, 0, 0, 0), some (.iload_n 3, 0, 0, 0), some (.iconst 1, 0, 0, 1)],
  [some (.iadd, 0, 0, 0), some (.iaload, 0, 0, 0), some (.aload_n 0, 0, 0, 0), some (.iload_n 3, 0, 0, 0), some (.iconst 2, 0, 0, 2), some (.iadd, 0, 0, 0), some (.iaload, 0, 0, 0), some (.aload_n 0, 0, 0, 0), some (.iload_n 3, 0, 0, 0), some (.iconst 3, 0, 0, 3), some (.iadd, 0, 0, 0), some (.iaload, 0, 0, 0), some (.invokevirtual 172, 135, 4, 0), none, none, some (.aload_n 2, 0, 0, 0)],
  [some (.aload_n 0, 0, 0, 0), some (.iload_n 3, 0, 0, 0), some (.iconst 1, 0, 0, 1), some (.iadd, 0, 0, 0), some (.iaload, 0, 0, 0), some (.aload_n 0, 0, 0, 0), some (.iload_n 3, 0, 0, 0), some (.iconst 2, 0, 0, 2), some (.iadd, 0, 0, 0), some (.iaload, 0, 0, 0), some (.aload_n 0, 0, 0, 0), some (.iload_n 3, 0, 0, 0), some (.iconst 3, 0, 0, 3), some (.iadd, 0, 0, 0), some (.iaload, 0, 0, 0), some (.invokevirtual 175, 241, 4, 0)],
  [none, none, some (.if_icmp .eq 133, 1687, 0, 0), none, none, some (.iconst 0, 0, 0, 0), some (.ireturn, 0, 0, 0), some (.aload_n 1, 0, 0, 0), some (.invokevirtual 176, 142, 1, 0), none, none, some (.aload_n 2, 0, 0, 0), some (.invokevirtual 179, 243, 1, 0), none, none, some (.if_icmp .eq 120, 1687, 0, 0)],
  [none, none, some (.iconst 0, 0, 0, 0), some (.ireturn, 0, 0, 0), some (.aload_n 1, 0, 0, 0), some (.invokevirtual 180, 143, 1, 0), none, none, some (.aload_n 2, 0, 0, 0), some (.invokevirtual 184, 244, 1, 0), none, none, some (.lcmp, 0, 0, 0), some (.ifCond .eq 106, 1687, 0, 0), none, none],
  [some (.iconst 0, 0, 0, 0), some (.ireturn, 0, 0, 0), some (.aload_n 1, 0, 0, 0), some (.invokevirtual 185, 144, 1, 0), none, none, some (.aload_n 2, 0, 0, 0), some (.invokevirtual 188, 245, 1, 0), none, none, some (.lcmp, 0, 0, 0), some (.ifCond .eq 92, 1687, 0, 0), none, none, some (.iconst 0, 0, 0, 0), some (.ireturn, 0, 0, 0)],
  [some (.aload_n 1, 0, 0, 0), some (.invokevirtual 189, 145, 1, 0), none, none, some (.aload_n 2, 0, 0, 0), some (.invokevirtual 192, 246, 1, 0), none, none, some (.lcmp, 0, 0, 0), some (.ifCond .eq 78, 1687, 0, 0), none, none, some (.iconst 0, 0, 0, 0), some (.ireturn, 0, 0, 0), some (.aload_n 1, 0, 0, 0), some (.aload_n 0, 0, 0, 0)],
  [some (.iload_n 3, 0, 0, 0), some (.iconst 1, 0, 0, 1), some (.iadd, 0, 0, 0), some (.iaload, 0, 0, 0), some (.invokevirtual 193, 146, 2, 0), none, none, some (.aload_n 2, 0, 0, 0), some (.aload_n 0, 0, 0, 0), some (.iload_n 3, 0, 0, 0), some (.iconst 1, 0, 0, 1), some (.iadd, 0, 0, 0), some (.iaload, 0, 0, 0), some (.invokevirtual 196, 247, 2, 0), none, none],
  [some (.if_icmp .eq 55, 1687, 0, 0), none, none, some (.iconst 0, 0, 0, 0), some (.ireturn, 0, 0, 0), some (.aload_n 1, 0, 0, 0), some (.invokevirtual 197, 150, 1, 0), none, none, some (.aload_n 2, 0, 0, 0), some (.invokevirtual 200, 249, 1, 0), none, none, some (.if_icmp .eq 42, 1687, 0, 0), none, none],
  [some (.iconst 0, 0, 0, 0), some (.ireturn, 0, 0, 0), some (.aload_n 1, 0, 0, 0), some (.aload_n 0, 0, 0, 0), some (.iload_n 3, 0, 0, 0), some (.iconst 1, 0, 0, 1), some (.iadd, 0, 0, 0), some (.iaload, 0, 0, 0), some (.invokevirtual 201, 151, 2, 0), none, none, some (.aload_n 2, 0, 0, 0), some (.aload_n 0, 0, 0, 0), some (.iload_n 3, 0, 0, 0), some (.iconst 1, 0, 0, 1), some (.iadd, 0, 0, 0)],
  [some (.iaload, 0, 0, 0), some (.invokevirtual 204, 250, 2, 0), none, none, some (.if_icmp .eq 19, 1687, 0, 0), none, none, some (.iconst 0, 0, 0, 0), some (.ireturn, 0, 0, 0), some (.aload_n 1, 0, 0, 0), some (.invokevirtual 205, 152, 1, 0), none, none, some (.aload_n 2, 0, 0, 0), some (.invokevirtual 208, 251, 1, 0), none],
  [none, some (.lcmp, 0, 0, 0), some (.ifCond .eq 5, 1687, 0, 0), none, none, some (.iconst 0, 0, 0, 0), some (.ireturn, 0, 0, 0), some (.iinc 3 6, 0, 0, 6), none, none, some (.goto (-1672), 18, 0, 0), none, none, some (.iconst 1, 0, 0, 1), some (.ireturn, 0, 0, 0), none]])
def xokL (pc : Nat) : Bool := match xfetch (xm_t xmL) pc with
  | none => true
  | some q => xokb xfin xFL xMV xMS xMI xOI xCL xAL xKI xKL xGS xmL pc q.2.1 q.2.2.1 q.2.2.2 q.1
theorem xgL_0 : (List.range 64).all (fun i => xokL (0 + i)) = true := by decide +kernel
theorem xgL_1 : (List.range 64).all (fun i => xokL (64 + i)) = true := by decide +kernel
theorem xgL_2 : (List.range 64).all (fun i => xokL (128 + i)) = true := by decide +kernel
theorem xgL_3 : (List.range 64).all (fun i => xokL (192 + i)) = true := by decide +kernel
theorem xgL_4 : (List.range 64).all (fun i => xokL (256 + i)) = true := by decide +kernel
theorem xgL_5 : (List.range 64).all (fun i => xokL (320 + i)) = true := by decide +kernel
theorem xgL_6 : (List.range 64).all (fun i => xokL (384 + i)) = true := by decide +kernel
theorem xgL_7 : (List.range 64).all (fun i => xokL (448 + i)) = true := by decide +kernel
theorem xgL_8 : (List.range 64).all (fun i => xokL (512 + i)) = true := by decide +kernel
theorem xgL_9 : (List.range 64).all (fun i => xokL (576 + i)) = true := by decide +kernel
theorem xgL_10 : (List.range 64).all (fun i => xokL (640 + i)) = true := by decide +kernel
theorem xgL_11 : (List.range 64).all (fun i => xokL (704 + i)) = true := by decide +kernel
theorem xgL_12 : (List.range 64).all (fun i => xokL (768 + i)) = true := by decide +kernel
theorem xgL_13 : (List.range 64).all (fun i => xokL (832 + i)) = true := by decide +kernel
theorem xgL_14 : (List.range 64).all (fun i => xokL (896 + i)) = true := by decide +kernel
theorem xgL_15 : (List.range 64).all (fun i => xokL (960 + i)) = true := by decide +kernel
theorem xgL_16 : (List.range 64).all (fun i => xokL (1024 + i)) = true := by decide +kernel
theorem xgL_17 : (List.range 64).all (fun i => xokL (1088 + i)) = true := by decide +kernel
theorem xgL_18 : (List.range 64).all (fun i => xokL (1152 + i)) = true := by decide +kernel
theorem xgL_19 : (List.range 64).all (fun i => xokL (1216 + i)) = true := by decide +kernel
theorem xgL_20 : (List.range 64).all (fun i => xokL (1280 + i)) = true := by decide +kernel
theorem xgL_21 : (List.range 64).all (fun i => xokL (1344 + i)) = true := by decide +kernel
theorem xgL_22 : (List.range 64).all (fun i => xokL (1408 + i)) = true := by decide +kernel
theorem xgL_23 : (List.range 64).all (fun i => xokL (1472 + i)) = true := by decide +kernel
theorem xgL_24 : (List.range 64).all (fun i => xokL (1536 + i)) = true := by decide +kernel
theorem xgL_25 : (List.range 64).all (fun i => xokL (1600 + i)) = true := by decide +kernel
theorem xgL_26 : (List.range 64).all (fun i => xokL (1664 + i)) = true := by decide +kernel
theorem xgL : ∀ c, c < 27 → (List.range 64).all (fun i => xokL (64 * c + i)) = true
  | 0, _ => xgL_0
  | 1, _ => xgL_1
  | 2, _ => xgL_2
  | 3, _ => xgL_3
  | 4, _ => xgL_4
  | 5, _ => xgL_5
  | 6, _ => xgL_6
  | 7, _ => xgL_7
  | 8, _ => xgL_8
  | 9, _ => xgL_9
  | 10, _ => xgL_10
  | 11, _ => xgL_11
  | 12, _ => xgL_12
  | 13, _ => xgL_13
  | 14, _ => xgL_14
  | 15, _ => xgL_15
  | 16, _ => xgL_16
  | 17, _ => xgL_17
  | 18, _ => xgL_18
  | 19, _ => xgL_19
  | 20, _ => xgL_20
  | 21, _ => xgL_21
  | 22, _ => xgL_22
  | 23, _ => xgL_23
  | 24, _ => xgL_24
  | 25, _ => xgL_25
  | 26, _ => xgL_26
  | c + 27, h => absurd h (by omega)
theorem xgL_ok {pc : Nat} {q : XE} (hq : xfetch (xm_t xmL) pc = some q) : xokb xfin xFL xMV xMS xMI xOI xCL xAL xKI xKL xGS xmL pc q.2.1 q.2.2.1 q.2.2.2 q.1 = true := by
  have hlt := x_fetch_lt hq
  have hlen : (xm_t xmL).length = 106 := by decide +kernel
  rw [hlen] at hlt
  have h := List.all_eq_true.mp (xgL (pc / 64) (by omega)) (pc % 64) (List.mem_range.mpr (by omega))
  rw [show 64 * (pc / 64) + pc % 64 = pc by omega] at h
  unfold xokL at h
  rw [hq] at h
  exact h
def xSTX : List (List XV) := [[xi 0, xi 0, xi 0, xi 2, xi 0, xi 4, xi 0], [xi 0, xi 0, xi (-1), xi 1, xi 0], [xi 0, xi (-1), xi 0, xi 0, xi 1], [xi 0, xi 0, xi 0, xi 0, xi 3, xi 3], [xi 72, xi 76, xi 87, xi 69]]
def tysX (tA : Nat → ClassId) : List (ClassId × FieldType) := [(tA 0, .int), (tA 1, .long), (tA 2, .boolean), (tA 3, .object "IceBoats$Row"), (tA 4, .object "IceBoats$Boat"), (tA 5, .object "IceBoats$Word"), (tA 6, .object "IceBoats$Look")]
theorem x_tysX (tA : Nat → ClassId) : xty (tysX tA) tA := ⟨rfl, rfl, rfl, fun t h1 h2 => by
  rcases (show t = 3 ∨ t = 4 ∨ t = 5 ∨ t = 6 by omega) with rfl | rfl | rfl | rfl
  · exact ⟨_, rfl⟩
  · exact ⟨_, rfl⟩
  · exact ⟨_, rfl⟩
  · exact ⟨_, rfl⟩⟩
theorem x_tysY (tA : Nat → ClassId) : ∀ t C, 3 ≤ t → t < 7 → xTY t = some (.object C) → (tysX tA)[t]? = some (tA t, .object C) := by
  intro t C h1 h2 h
  rcases (show t = 3 ∨ t = 4 ∨ t = 5 ∨ t = 6 by omega) with rfl | rfl | rfl | rfl <;> cases h <;> rfl
theorem x_tysC (tA : Nat → ClassId) : ∀ t b, xTC t = some b → 3 ≤ t ∧ t < 7 ∧ ∃ o : vw_C, vwCl[b]? = some o ∧ (tysX tA)[t]? = some (tA t, .object o.1) := by
  intro t b h
  by_cases ht : 3 ≤ t ∧ t < 7
  · rcases (show t = 3 ∨ t = 4 ∨ t = 5 ∨ t = 6 by omega) with rfl | rfl | rfl | rfl <;> cases h
    · exact ⟨by decide, by decide, (RX4, TX4, 2), rfl, rfl⟩
    · exact ⟨by decide, by decide, (RX0, TX0, 12), rfl, rfl⟩
    · exact ⟨by decide, by decide, (RX8, TX8, 7), rfl, rfl⟩
    · exact ⟨by decide, by decide, (RX2, TX2, 4), rfl, rfl⟩
  · exfalso
    unfold xTC at h
    split at h <;> first | omega | cases h
theorem x_arrP {args : Array Value} {s : State} {ty : FieldType} (hp : ∀ C, ty ≠ .object C) (h : (Cond.arrayClass ty).before args s = true) : ∃ cA, ArrOfT s cA ty ∧ va_RA s cA ty := by
  obtain ⟨c, k, comp, h1, h2, h3⟩ := Cond.arrayClass_spec h
  refine ⟨c, fun n z => ⟨fun k h => (by cases h), k, h2, comp, h3⟩, ?_⟩
  cases ty <;> first | exact h1 | exact absurd rfl (hp _)
theorem x_arrO {args : Array Value} {s : State} {C : String} (h : (Cond.arrayOver (.object C)).before args s = true) : ∃ cA, ArrOfT s cA (.object C) ∧ va_RA s cA (.object C) := by
  obtain ⟨comp, c, k, h1, -, h3, h4, h5⟩ := Cond.arrayOver_spec h
  exact ⟨c, fun n z => ⟨fun k h => (by cases h), k, h3, comp, h4⟩, k, comp, h3, h4, h1, h5⟩
theorem x_mapi {vs : List Int32} {i : Nat} {x : XV} (h : (vs.map fun v => xi v.toInt)[i]? = some x) : xv_in [] [] x (.int (vs.getD i 0)) := by
  rw [List.getElem?_map] at h
  cases hv : vs[i]? with
  | none => rw [hv] at h; cases h
  | some v =>
    rw [hv] at h
    cases h
    rw [List.getD_eq_getElem?_getD, hv]
    exact ⟨v, rfl, Int.le_refl _, Int.le_refl _⟩
end
section
set_option maxRecDepth 100000 in
set_option maxHeartbeats 4000000 in
/-- what surrounds the law, out of its start -/
theorem xlaw_env {s : State} {b L : Nat} {xs : Nat → Int32} (hts : ∀ w ∈ lw_tbl, w.before #[Value.ref b] s = true) (hX : va_X b L xs s s.heap) (hbl : b < s.heap.size) (hL : L < 2 ^ 31) (hgv : (Jvm.Cond.and given_1 narrow_1).before #[Value.ref b] s = true) : ∃ (D : va_G) (tA : Nat → ClassId) (ex : List Nat), ex[5]? = some b ∧ ∀ sc : List XV, sc.length = L → (∀ (i : Nat) (x : XV), sc[i]? = some x → xv_in [] [] x (.int (xs i))) → XEnv D vwCl (tysX tA) ex (xSTX ++ [sc]) xSV xNW xNF (fun q : Nat => s.heap.size ≤ q) s := by
  have hA0 : ∀ a : Nat, a < s.heap.size → ¬ (fun q : Nat => s.heap.size ≤ q) a := fun a h => Nat.not_le.mpr h
  have hT : ∀ w ∈ xTs, w.before #[Value.ref b] s = true := fun w hw => hts w (List.mem_filter.mp hw).1
  have hs := flat_of_before _ hgv
  obtain ⟨c0, i0, hK0⟩ := u_known (C := RX0) (T := TX0) (N := 12) (n := 12) hT xu_0 (hT _ xw_44)
  obtain ⟨c1, i1, hK1⟩ := u_known (C := RX1) (T := TX1) (N := 4) (n := 4) hT xu_1 (hT _ xw_30)
  obtain ⟨c2, i2, hK2⟩ := u_known (C := RX2) (T := TX2) (N := 4) (n := 4) hT xu_2 (hT _ xw_310)
  obtain ⟨c3, i3, hK3⟩ := u_known (C := RX3) (T := TX3) (N := 4) (n := 4) hT xu_3 (hT _ xw_24)
  obtain ⟨c4, i4, hK4⟩ := u_known (C := RX4) (T := TX4) (N := 2) (n := 2) hT xu_4 (hT _ xw_39)
  obtain ⟨c5, i5, hK5⟩ := u_known (C := RX5) (T := TX5) (N := 1) (n := 1) hT xu_5 (hT _ xw_18)
  obtain ⟨c6, i6, hK6⟩ := u_known (C := RX6) (T := TX6) (N := 8) (n := 8) hT xu_6 (hT _ xw_5)
  obtain ⟨c7, i7, hK7⟩ := u_known (C := RX7) (T := TX7) (N := 2) (n := 2) hT xu_7 (hT _ xw_55)
  obtain ⟨c8, i8, hK8⟩ := u_known (C := RX8) (T := TX8) (N := 7) (n := 7) hT xu_8 (hT _ xw_349)
  obtain ⟨c9, i9, hK9⟩ := u_known (C := RX9) (T := TX9) (N := 19) (n := 19) hT xu_9 (hT _ xw_827)
  obtain ⟨c10, i10, hK10⟩ := u_known (C := RX10) (T := TX10) (N := 51) (n := 51) hT xu_10 (hT _ xw_832)
  obtain ⟨dC, dI, hKc⟩ : ∃ (dC : Nat → ClassId) (dI : Nat → Nat → Nat), ∀ (k : Nat) (q : vw_C), vwCl[k]? = some q → u_Kn s q.1 q.2.1 q.2.2 (dC k) (dI k) := by
    refine ⟨fun k => if k = 0 then c0 else if k = 1 then c1 else if k = 2 then c2 else if k = 3 then c3 else if k = 4 then c4 else if k = 5 then c5 else if k = 6 then c6 else if k = 7 then c7 else if k = 8 then c8 else if k = 9 then c9 else c10, fun k => if k = 0 then i0 else if k = 1 then i1 else if k = 2 then i2 else if k = 3 then i3 else if k = 4 then i4 else if k = 5 then i5 else if k = 6 then i6 else if k = 7 then i7 else if k = 8 then i8 else if k = 9 then i9 else i10, ?_⟩
    intro k q hq
    match k, hq with
    | 0, hq => cases hq; exact hK0
    | 1, hq => cases hq; exact hK1
    | 2, hq => cases hq; exact hK2
    | 3, hq => cases hq; exact hK3
    | 4, hq => cases hq; exact hK4
    | 5, hq => cases hq; exact hK5
    | 6, hq => cases hq; exact hK6
    | 7, hq => cases hq; exact hK7
    | 8, hq => cases hq; exact hK8
    | 9, hq => cases hq; exact hK9
    | 10, hq => cases hq; exact hK10
    | k + 11, hq => simp [vwCl] at hq
  obtain ⟨a0, r0, q0⟩ := x_arrP (fun C h => by cases h) (hT _ xw_1209)
  obtain ⟨a1, r1, q1⟩ := x_arrP (fun C h => by cases h) (hT _ xw_1210)
  obtain ⟨a2, r2, q2⟩ := x_arrP (fun C h => by cases h) (hT _ xw_1211)
  have o3 := hts (Cond.arrayOver (.object "IceBoats$Row")) (List.mem_of_getElem? (i := 100) (by decide +kernel))
  obtain ⟨a3, r3, q3⟩ := x_arrO o3
  have o4 := hts (Cond.arrayOver (.object "IceBoats$Boat")) (List.mem_of_getElem? (i := 155) (by decide +kernel))
  obtain ⟨a4, r4, q4⟩ := x_arrO o4
  have o5 := hts (Cond.arrayOver (.object "IceBoats$Word")) (List.mem_of_getElem? (i := 157) (by decide +kernel))
  obtain ⟨a5, r5, q5⟩ := x_arrO o5
  have o6 := hts (Cond.arrayOver (.object "IceBoats$Look")) (List.mem_of_getElem? (i := 159) (by decide +kernel))
  obtain ⟨a6, r6, q6⟩ := x_arrO o6
  have hK : va_K (dC, dI) vwCl (tysX (fun t => if t = 0 then a0 else if t = 1 then a1 else if t = 2 then a2 else if t = 3 then a3 else if t = 4 then a4 else if t = 5 then a5 else a6)) s := by
    refine ⟨hKc, fun k q hq => ?_⟩
    match k, hq with
    | 0, hq => cases hq; exact ⟨r0, q0⟩
    | 1, hq => cases hq; exact ⟨r1, q1⟩
    | 2, hq => cases hq; exact ⟨r2, q2⟩
    | 3, hq => cases hq; exact ⟨r3, q3⟩
    | 4, hq => cases hq; exact ⟨r4, q4⟩
    | 5, hq => cases hq; exact ⟨r5, q5⟩
    | 6, hq => cases hq; exact ⟨r6, q6⟩
    | k + 7, hq => simp [tysX] at hq
  obtain ⟨t0, hv0, hT0⟩ := va_Tof (args := #[Value.ref b]) (tm := (Term.static "IceBoats" "BOAT_KIND_ABOVE" "[I")) (ty := .int) (N := 7) (f := fun j => .int (([0, 0, 0, 2, 0, 4, 0] : List Int32).getD j 0)) (A := fun q : Nat => s.heap.size ≤ q) (by decide) (hs (Cond.arrayOf (Term.static "IceBoats" "BOAT_KIND_ABOVE" "[I") .int) (by decide +kernel)) (va_eqt (z := 7) (hs (Cond.eq (.length (Term.static "IceBoats" "BOAT_KIND_ABOVE" "[I")) (.int 7)) (by decide +kernel))) (fun j hj => by
    rcases (show j = 0 ∨ j = 1 ∨ j = 2 ∨ j = 3 ∨ j = 4 ∨ j = 5 ∨ j = 6 by omega) with rfl | rfl | rfl | rfl | rfl | rfl | rfl
    · exact va_eqt (hs (Cond.eq (.elem (Term.static "IceBoats" "BOAT_KIND_ABOVE" "[I") (.int 0)) (.int 0)) (by decide +kernel))
    · exact va_eqt (hs (Cond.eq (.elem (Term.static "IceBoats" "BOAT_KIND_ABOVE" "[I") (.int 1)) (.int 0)) (by decide +kernel))
    · exact va_eqt (hs (Cond.eq (.elem (Term.static "IceBoats" "BOAT_KIND_ABOVE" "[I") (.int 2)) (.int 0)) (by decide +kernel))
    · exact va_eqt (hs (Cond.eq (.elem (Term.static "IceBoats" "BOAT_KIND_ABOVE" "[I") (.int 3)) (.int 2)) (by decide +kernel))
    · exact va_eqt (hs (Cond.eq (.elem (Term.static "IceBoats" "BOAT_KIND_ABOVE" "[I") (.int 4)) (.int 0)) (by decide +kernel))
    · exact va_eqt (hs (Cond.eq (.elem (Term.static "IceBoats" "BOAT_KIND_ABOVE" "[I") (.int 5)) (.int 4)) (by decide +kernel))
    · exact va_eqt (hs (Cond.eq (.elem (Term.static "IceBoats" "BOAT_KIND_ABOVE" "[I") (.int 6)) (.int 0)) (by decide +kernel))
    ) hA0
  have hZ0 := va_Zof (args := #[Value.ref b]) (A := fun q : Nat => s.heap.size ≤ q) (hts (Cond.laysStatic "IceBoats" "BOAT_KIND_ABOVE" "[I") (List.mem_of_getElem? (i := 495) (by decide +kernel))) (hT _ xw_85) hv0 hA0
  obtain ⟨t1, hv1, hT1⟩ := va_Tof (args := #[Value.ref b]) (tm := (Term.static "IceBoats" "STEP_X" "[I")) (ty := .int) (N := 5) (f := fun j => .int (([0, 0, (-1), 1, 0] : List Int32).getD j 0)) (A := fun q : Nat => s.heap.size ≤ q) (by decide) (hs (Cond.arrayOf (Term.static "IceBoats" "STEP_X" "[I") .int) (by decide +kernel)) (va_eqt (z := 5) (hs (Cond.eq (.length (Term.static "IceBoats" "STEP_X" "[I")) (.int 5)) (by decide +kernel))) (fun j hj => by
    rcases (show j = 0 ∨ j = 1 ∨ j = 2 ∨ j = 3 ∨ j = 4 by omega) with rfl | rfl | rfl | rfl | rfl
    · exact va_eqt (hs (Cond.eq (.elem (Term.static "IceBoats" "STEP_X" "[I") (.int 0)) (.int 0)) (by decide +kernel))
    · exact va_eqt (hs (Cond.eq (.elem (Term.static "IceBoats" "STEP_X" "[I") (.int 1)) (.int 0)) (by decide +kernel))
    · exact va_eqt (hs (Cond.eq (.elem (Term.static "IceBoats" "STEP_X" "[I") (.int 2)) (.int (-1))) (by decide +kernel))
    · exact va_eqt (hs (Cond.eq (.elem (Term.static "IceBoats" "STEP_X" "[I") (.int 3)) (.int 1)) (by decide +kernel))
    · exact va_eqt (hs (Cond.eq (.elem (Term.static "IceBoats" "STEP_X" "[I") (.int 4)) (.int 0)) (by decide +kernel))
    ) hA0
  have hZ1 := va_Zof (args := #[Value.ref b]) (A := fun q : Nat => s.heap.size ≤ q) (hts (Cond.laysStatic "IceBoats" "STEP_X" "[I") (List.mem_of_getElem? (i := 529) (by decide +kernel))) (hT _ xw_85) hv1 hA0
  obtain ⟨t2, hv2, hT2⟩ := va_Tof (args := #[Value.ref b]) (tm := (Term.static "IceBoats" "STEP_Y" "[I")) (ty := .int) (N := 5) (f := fun j => .int (([0, (-1), 0, 0, 1] : List Int32).getD j 0)) (A := fun q : Nat => s.heap.size ≤ q) (by decide) (hs (Cond.arrayOf (Term.static "IceBoats" "STEP_Y" "[I") .int) (by decide +kernel)) (va_eqt (z := 5) (hs (Cond.eq (.length (Term.static "IceBoats" "STEP_Y" "[I")) (.int 5)) (by decide +kernel))) (fun j hj => by
    rcases (show j = 0 ∨ j = 1 ∨ j = 2 ∨ j = 3 ∨ j = 4 by omega) with rfl | rfl | rfl | rfl | rfl
    · exact va_eqt (hs (Cond.eq (.elem (Term.static "IceBoats" "STEP_Y" "[I") (.int 0)) (.int 0)) (by decide +kernel))
    · exact va_eqt (hs (Cond.eq (.elem (Term.static "IceBoats" "STEP_Y" "[I") (.int 1)) (.int (-1))) (by decide +kernel))
    · exact va_eqt (hs (Cond.eq (.elem (Term.static "IceBoats" "STEP_Y" "[I") (.int 2)) (.int 0)) (by decide +kernel))
    · exact va_eqt (hs (Cond.eq (.elem (Term.static "IceBoats" "STEP_Y" "[I") (.int 3)) (.int 0)) (by decide +kernel))
    · exact va_eqt (hs (Cond.eq (.elem (Term.static "IceBoats" "STEP_Y" "[I") (.int 4)) (.int 1)) (by decide +kernel))
    ) hA0
  have hZ2 := va_Zof (args := #[Value.ref b]) (A := fun q : Nat => s.heap.size ≤ q) (hts (Cond.laysStatic "IceBoats" "STEP_Y" "[I") (List.mem_of_getElem? (i := 531) (by decide +kernel))) (hT _ xw_85) hv2 hA0
  obtain ⟨t3, hv3, hT3⟩ := va_Tof (args := #[Value.ref b]) (tm := (Term.static "IceBoats" "WORD_KIND_ABOVE" "[I")) (ty := .int) (N := 6) (f := fun j => .int (([0, 0, 0, 0, 3, 3] : List Int32).getD j 0)) (A := fun q : Nat => s.heap.size ≤ q) (by decide) (hs (Cond.arrayOf (Term.static "IceBoats" "WORD_KIND_ABOVE" "[I") .int) (by decide +kernel)) (va_eqt (z := 6) (hs (Cond.eq (.length (Term.static "IceBoats" "WORD_KIND_ABOVE" "[I")) (.int 6)) (by decide +kernel))) (fun j hj => by
    rcases (show j = 0 ∨ j = 1 ∨ j = 2 ∨ j = 3 ∨ j = 4 ∨ j = 5 by omega) with rfl | rfl | rfl | rfl | rfl | rfl
    · exact va_eqt (hs (Cond.eq (.elem (Term.static "IceBoats" "WORD_KIND_ABOVE" "[I") (.int 0)) (.int 0)) (by decide +kernel))
    · exact va_eqt (hs (Cond.eq (.elem (Term.static "IceBoats" "WORD_KIND_ABOVE" "[I") (.int 1)) (.int 0)) (by decide +kernel))
    · exact va_eqt (hs (Cond.eq (.elem (Term.static "IceBoats" "WORD_KIND_ABOVE" "[I") (.int 2)) (.int 0)) (by decide +kernel))
    · exact va_eqt (hs (Cond.eq (.elem (Term.static "IceBoats" "WORD_KIND_ABOVE" "[I") (.int 3)) (.int 0)) (by decide +kernel))
    · exact va_eqt (hs (Cond.eq (.elem (Term.static "IceBoats" "WORD_KIND_ABOVE" "[I") (.int 4)) (.int 3)) (by decide +kernel))
    · exact va_eqt (hs (Cond.eq (.elem (Term.static "IceBoats" "WORD_KIND_ABOVE" "[I") (.int 5)) (.int 3)) (by decide +kernel))
    ) hA0
  have hZ3 := va_Zof (args := #[Value.ref b]) (A := fun q : Nat => s.heap.size ≤ q) (hts (Cond.laysStatic "IceBoats" "WORD_KIND_ABOVE" "[I") (List.mem_of_getElem? (i := 739) (by decide +kernel))) (hT _ xw_85) hv3 hA0
  obtain ⟨t4, hv4, hT4⟩ := va_Tof (args := #[Value.ref b]) (tm := (Term.static "IceBoats" "LETTER_BYTES" "[I")) (ty := .int) (N := 4) (f := fun j => .int (([72, 76, 87, 69] : List Int32).getD j 0)) (A := fun q : Nat => s.heap.size ≤ q) (by decide) (hs (Cond.arrayOf (Term.static "IceBoats" "LETTER_BYTES" "[I") .int) (by decide +kernel)) (va_eqt (z := 4) (hs (Cond.eq (.length (Term.static "IceBoats" "LETTER_BYTES" "[I")) (.int 4)) (by decide +kernel))) (fun j hj => by
    rcases (show j = 0 ∨ j = 1 ∨ j = 2 ∨ j = 3 by omega) with rfl | rfl | rfl | rfl
    · exact va_eqt (hs (Cond.eq (.elem (Term.static "IceBoats" "LETTER_BYTES" "[I") (.int 0)) (.int 72)) (by decide +kernel))
    · exact va_eqt (hs (Cond.eq (.elem (Term.static "IceBoats" "LETTER_BYTES" "[I") (.int 1)) (.int 76)) (by decide +kernel))
    · exact va_eqt (hs (Cond.eq (.elem (Term.static "IceBoats" "LETTER_BYTES" "[I") (.int 2)) (.int 87)) (by decide +kernel))
    · exact va_eqt (hs (Cond.eq (.elem (Term.static "IceBoats" "LETTER_BYTES" "[I") (.int 3)) (.int 69)) (by decide +kernel))
    ) hA0
  have hZ4 := va_Zof (args := #[Value.ref b]) (A := fun q : Nat => s.heap.size ≤ q) (hts (Cond.laysStatic "IceBoats" "LETTER_BYTES" "[I") (List.mem_of_getElem? (i := 799) (by decide +kernel))) (hT _ xw_85) hv4 hA0
  refine ⟨(dC, dI), _, [t0, t1, t2, t3, t4, b], rfl, fun sc hsc hin => ⟨hK, ?_, ?_, ?_, ?_, ?_⟩⟩
  · intro j a es ha he
    match j, ha, he with
    | 0, ha, he => cases ha; cases he; exact ⟨_, hT0, fun i x hx => x_mapi (vs := [0, 0, 0, 2, 0, 4, 0]) (by rw [show (([0, 0, 0, 2, 0, 4, 0] : List Int32).map fun v => xi v.toInt) = [xi 0, xi 0, xi 0, xi 2, xi 0, xi 4, xi 0] by decide +kernel]; exact hx)⟩
    | 1, ha, he => cases ha; cases he; exact ⟨_, hT1, fun i x hx => x_mapi (vs := [0, 0, (-1), 1, 0]) (by rw [show (([0, 0, (-1), 1, 0] : List Int32).map fun v => xi v.toInt) = [xi 0, xi 0, xi (-1), xi 1, xi 0] by decide +kernel]; exact hx)⟩
    | 2, ha, he => cases ha; cases he; exact ⟨_, hT2, fun i x hx => x_mapi (vs := [0, (-1), 0, 0, 1]) (by rw [show (([0, (-1), 0, 0, 1] : List Int32).map fun v => xi v.toInt) = [xi 0, xi (-1), xi 0, xi 0, xi 1] by decide +kernel]; exact hx)⟩
    | 3, ha, he => cases ha; cases he; exact ⟨_, hT3, fun i x hx => x_mapi (vs := [0, 0, 0, 0, 3, 3]) (by rw [show (([0, 0, 0, 0, 3, 3] : List Int32).map fun v => xi v.toInt) = [xi 0, xi 0, xi 0, xi 0, xi 3, xi 3] by decide +kernel]; exact hx)⟩
    | 4, ha, he => cases ha; cases he; exact ⟨_, hT4, fun i x hx => x_mapi (vs := [72, 76, 87, 69]) (by rw [show (([72, 76, 87, 69] : List Int32).map fun v => xi v.toInt) = [xi 72, xi 76, xi 87, xi 69] by decide +kernel]; exact hx)⟩
    | 5, ha, he =>
      cases ha; cases he
      obtain ⟨scr, g1, g2, g3, g4, g5⟩ := hX
      exact ⟨fun j => .int (xs j), ⟨scr, g1, g2, g3, by rw [hsc, g4] <;> exact Nat.le_refl _, by rw [hsc, g4] <;> rfl, fun j hj => g5 j (by omega), hA0 _ hbl⟩, hin⟩
    | j + 6, ha, he => simp at ha
  · intro q hq
    simp only [xSV, List.mem_cons, List.mem_nil_iff, or_false] at hq
    rcases hq with rfl | rfl | rfl | rfl | rfl
    · exact ⟨t0, rfl, hZ0⟩
    · exact ⟨t1, rfl, hZ1⟩
    · exact ⟨t2, rfl, hZ2⟩
    · exact ⟨t3, rfl, hZ3⟩
    · exact ⟨t4, rfl, hZ4⟩
  · intro q hq
    simp only [xNW, List.mem_cons, List.mem_nil_iff, or_false] at hq
    rcases hq with rfl | rfl | rfl | rfl | rfl | rfl | rfl | rfl
    · exact va_Nw.of rfl (hts _ (List.mem_of_getElem? (i := 109) (by decide +kernel)))
    · exact va_Nw.of rfl (hts _ (List.mem_of_getElem? (i := 162) (by decide +kernel)))
    · exact va_Nw.of rfl (hts _ (List.mem_of_getElem? (i := 173) (by decide +kernel)))
    · exact va_Nw.of rfl (hts _ (List.mem_of_getElem? (i := 195) (by decide +kernel)))
    · exact va_Nw.of rfl (hts _ (List.mem_of_getElem? (i := 214) (by decide +kernel)))
    · exact va_Nw.of rfl (hts _ (List.mem_of_getElem? (i := 232) (by decide +kernel)))
    · exact va_Nw.of rfl (hts _ (List.mem_of_getElem? (i := 414) (by decide +kernel)))
    · exact va_Nw.of rfl (hts _ (List.mem_of_getElem? (i := 600) (by decide +kernel)))
  · intro q hq
    simp only [xNF, List.mem_cons, List.mem_nil_iff, or_false] at hq
    rcases hq with rfl | rfl | rfl
    · exact va_Nw.of rfl (hts _ (List.mem_of_getElem? (i := 528) (by decide +kernel)))
    · exact va_Nw.of rfl (hts _ (List.mem_of_getElem? (i := 530) (by decide +kernel)))
    · exact va_Nw.of rfl (hts _ (List.mem_of_getElem? (i := 798) (by decide +kernel)))
  · intro C hC
    simp only [xAO, List.mem_cons, List.mem_nil_iff, or_false] at hC
    rcases hC with rfl | rfl | rfl | rfl
    · exact va_AO.of o3
    · exact va_AO.of o4
    · exact va_AO.of o5
    · exact va_AO.of o6
end
section
/-! ===== runs of the law ===== -/
def xov : XF := fun _ _ _ => none
abbrev xcf (fu : Nat) (sc : List XV) : XF := xcall xMT xFT xFD xTY xTC (xSTX ++ [sc]) xov fu 8
abbrev xlst (fu : Nat) (sc : List XV) : XS → Option XR := xstep (xcf fu sc) xMT xFT xFD xTY xTC (xSTX ++ [sc]) xmL
/-- the law comes to its end with 1 -/
def xend : Option XR → Bool
  | some (.inr q) => (match q.1 with
    | some (.inl z) => decide (z = (1, 1))
    | _ => false) && decide (q.2.2.1 ≤ 600000 ∧ q.2.2.2 ≤ 7302250)
  | _ => false
def xgoodf (fu : Nat) (sc : List XV) (S : XS) : Bool := xend (xrun (xlst fu sc) fu S)
abbrev xgood (sc : List XV) (S : XS) : Bool := xgoodf 20 sc S
def xsteps (f : XS → Option XR) : Nat → XS → Option XS
  | 0, S => some S
  | n + 1, S => match f S with
    | some (.inl S') => xsteps f n S'
    | _ => none
theorem xsteps_ok {f : XS → Option XR} {P : XR → Prop} (hf : ∀ S r, f S = some r → P r → P (.inl S)) : ∀ (n : Nat) (S S' : XS), xsteps f n S = some S' → P (.inl S') → P (.inl S)
  | 0, S, S', h, hr => by
    cases h
    exact hr
  | n + 1, S, S', h, hr => by
    unfold xsteps at h
    cases h1 : f S with
    | none => rw [h1] at h; cases h
    | some q =>
      rw [h1] at h
      match q, h, h1 with
      | .inl S2, h, h1 => exact hf S _ h1 (xsteps_ok hf n S2 S' h hr)
      | .inr _, h, _ => cases h
-- bounds that cover all ints
def xcov {β : Type} : Int → List ((Int × Int) × β) → Bool
  | lo, [] => decide (2147483647 < lo)
  | lo, q :: l => decide (q.1.1 ≤ lo) && xcov (q.1.2 + 1) l
theorem xcov_in {β : Type} : ∀ {lo : Int} {l : List ((Int × Int) × β)} {z : Int}, xcov lo l = true → lo ≤ z → z ≤ 2147483647 → ∃ q ∈ l, q.1.1 ≤ z ∧ z ≤ q.1.2
  | lo, [], z, h, h1, h2 => by
    have h : decide (2147483647 < lo) = true := h
    have := of_decide_eq_true h
    omega
  | lo, q :: l, z, h, h1, h2 => by
    have h : (decide (q.1.1 ≤ lo) && xcov (q.1.2 + 1) l) = true := h
    rw [Bool.and_eq_true] at h
    have ha := of_decide_eq_true h.1
    by_cases hz : z ≤ q.1.2
    · exact ⟨q, List.mem_cons_self, by omega, hz⟩
    · obtain ⟨q2, m2, b2⟩ := xcov_in h.2 (show q.1.2 + 1 ≤ z by omega) h2
      exact ⟨q2, List.mem_cons_of_mem _ m2, b2⟩
abbrev XB1 : Type := List ((Int × Int) × Unit)
abbrev XB2 : Type := List ((Int × Int) × XB1)
abbrev XB3 : Type := List ((Int × Int) × XB2)
abbrev XB4 : Type := List ((Int × Int) × XB3)
abbrev XB5 : Type := List ((Int × Int) × XB4)
def xchk {β : Type} (l : List ((Int × Int) × β)) (f : Int × Int → β → Bool) : Bool := xcov (-2147483648) l && l.all (fun q => f q.1 q.2)
theorem xchk_in {β : Type} {l : List ((Int × Int) × β)} {f : Int × Int → β → Bool} (h : xchk l f = true) (z : Int32) : ∃ q b, f q b = true ∧ q.1 ≤ z.toInt ∧ z.toInt ≤ q.2 := by
  unfold xchk at h
  rw [Bool.and_eq_true] at h
  obtain ⟨q, m, b1, b2⟩ := xcov_in h.1 (x_rng z).1 (x_rng z).2
  exact ⟨q.1, q.2, List.all_eq_true.mp h.2 q m, b1, b2⟩
def xchk5 (l : XB5) (f : List XV → Bool) : Bool := xchk l (fun q1 l => xchk l (fun q2 l => xchk l (fun q3 l => xchk l (fun q4 l => xchk l (fun q5 _ => f [.inl xtop, .inl q1, .inl q2, .inl q3, .inl q4, .inl q5])))))
theorem xchk5_in {l : XB5} {f : List XV → Bool} (h : xchk5 l f = true) (xs : Nat → Int32) : ∃ sc : List XV, f sc = true ∧ sc.length = 6 ∧ ∀ (i : Nat) (x : XV), sc[i]? = some x → xv_in [] [] x (.int (xs i)) := by
  obtain ⟨q1, l1, h, a1⟩ := xchk_in h (xs 1)
  obtain ⟨q2, l2, h, a2⟩ := xchk_in h (xs 2)
  obtain ⟨q3, l3, h, a3⟩ := xchk_in h (xs 3)
  obtain ⟨q4, l4, h, a4⟩ := xchk_in h (xs 4)
  obtain ⟨q5, l5, h, a5⟩ := xchk_in h (xs 5)
  refine ⟨_, h, rfl, fun i x hx => ?_⟩
  match i, hx with
  | 0, hx => cases hx; exact ⟨xs 0, rfl, x_rng _⟩
  | 1, hx => cases hx; exact ⟨xs 1, rfl, a1⟩
  | 2, hx => cases hx; exact ⟨xs 2, rfl, a2⟩
  | 3, hx => cases hx; exact ⟨xs 3, rfl, a3⟩
  | 4, hx => cases hx; exact ⟨xs 4, rfl, a4⟩
  | 5, hx => cases hx; exact ⟨xs 5, rfl, a5⟩
  | i + 6, hx => simp at hx
section XLW
variable {p : Program} {l : Launch} {e : Env} {s : State} {m : MethodId} {below : List Frame} {meth : Method} {c : Code} {b L : Nat} {xs : Nat → Int32} {D : va_G} {tA : Nat → ClassId} {ex : List Nat} {sc : List XV} {fu : Nat}
abbrev XLS (p : Program) (l : Launch) (e : Env) (s : State) (m : MethodId) (b : Nat) (below : List Frame) (meth : Method) (c : Code) (D : va_G) (tA : Nat → ClassId) (ex : List Nat) : XR → Prop := XRs p l e room_1 s m #[Value.ref b] below meth c (lw_Z below #[Value.ref b] s) code 4 D vwCl tA (fun q : Nat => s.heap.size ≤ q) [] ex (some .boolean)
set_option maxHeartbeats 4000000 in
theorem xlaw_step (C0 : lw_At p s m meth c b L xs) (hE : XEnv D vwCl (tysX tA) ex (xSTX ++ [sc]) xSV xNW xNF (fun q : Nat => s.heap.size ≤ q) s) : ∀ S r, xlst fu sc S = some r → XLS p l e s m b below meth c D tA ex r → XLS p l e s m b below meth c D tA ex (.inl S) := by
  obtain ⟨hx, hb, hr, hml, hown, hts, hX, hbl, hlocks, hgv⟩ := C0
  intro S r hS hR
  have hT : ∀ w ∈ xTs, w.before #[Value.ref b] s = true := fun w hw => hts w (List.mem_filter.mp hw).1
  have hS : xstep (xcf fu sc) xMT xFT xFD xTY xTC (xSTX ++ [sc]) xmL S = some r := hS
  unfold xstep at hS
  cases hf : xfetch (xm_t xmL) S.1 with
  | none => rw [hf] at hS; cases hS
  | some q =>
    rw [hf] at hS
    obtain ⟨od, oa⟩ := xokb_ok (cl := vwCl) (MT := xMT) (FT := xFT) (FD := xFD) (TY := xTY) (SV := xSV) (NW := xNW) (NF := xNF) (M := xmL) rfl ⟨rfl, rfl, rfl⟩ x_arrs x_oi xFL_ok xMV_ok xMS_ok xMI_ok xOI_ok xCL_ok xAL_ok xKI_ok xKL_ok xGS_ok (xgL_ok hf)
    exact xins_ok (M := xmL) (R := room_1) hx hb hml hown (fun h => absurd h (by decide +kernel)) hT x_good hE (fun _ h => h) rfl rfl rfl rfl (x_tysX tA) (x_tysY tA) (x_tysC tA) (xcall_met x_good (x_tysX tA) (x_tysY tA) (x_tysC tA) x_ok (fun j N as w ro w' _ h => by cases h) 8) od oa hS hR
theorem xlaw_end (C0 : lw_At p s m meth c b L xs) {q : Option XV × XW × Nat × Nat} (h : xend (some (.inr q)) = true) : XLS p l e s m b below meth c D tA ex (.inr q) := by
  obtain ⟨hx, hb, hr, hml, hown, hts, hX, hbl, hlocks, hgv⟩ := C0
  have h : ((match q.1 with
    | some (.inl z) => decide (z = (1, 1))
    | _ => false) && decide (q.2.2.1 ≤ 600000 ∧ q.2.2.2 ≤ 7302250)) = true := h
  rw [Bool.and_eq_true] at h
  have hc := of_decide_eq_true h.2
  intro pc i H locs ls rv ws hd hrt hrk ho hz hw hP hD hS htl
  refine W.widen hc.1 hc.2 ?_
  refine va_forget (fun q hq => hS.2.2 q hq) ?_
  obtain ⟨ro, w', k', n'⟩ := q
  match ro, h.1, ho with
  | some (.inl z), h1, ho =>
    have hz1 : z = (1, 1) := of_decide_eq_true h1
    subst hz1
    obtain ⟨u, rfl, y, rfl, y1, y2⟩ := ho
    have hy : y = 1 := Int32.toInt_inj.mp (show y.toInt = 1 by omega)
    subst hy
    cases i with
    | ireturn => exact lw_ret hx hb hr hlocks hd
    | lreturn =>
      obtain ⟨v, hv⟩ := hrk
      cases hv
    | areturn =>
      rcases hrk with hv | ⟨v, hv⟩ <;> cases hv
    | return_ => cases hrk
    | _ => exact absurd hrk id
theorem xlaw_run (C0 : lw_At p s m meth c b L xs) (hE : XEnv D vwCl (tysX tA) ex (xSTX ++ [sc]) xSV xNW xNF (fun q : Nat => s.heap.size ≤ q) s) {S : XS} (h : xgoodf fu sc S = true) : XLS p l e s m b below meth c D tA ex (.inl S) := by
  unfold xgoodf at h
  cases hr : xrun (xlst fu sc) fu S with
  | none => rw [hr] at h; cases h
  | some q =>
    rw [hr] at h
    match q, h, hr with
    | .inl _, h, _ => cases h
    | .inr q, h, hr => exact xrun_ok (xlaw_step C0 hE) fu S _ hr (xlaw_end C0 h)
end XLW
end
section
/-! ===== the world behind the two constructors ===== -/
def xw0 : XW := [
  .inl (9, [.inr (.inr (1, 1)), .inr (.inr (1, 2)), .inr (.inr (1, 3)), .inr (.inr (1, 11)), .inr (.inr (1, 12)), .inr (.inr (1, 13)), .inr (.inr (1, 14)), .inr (.inr (1, 16)), .inr (.inr (1, 19)), .inr (.inr (1, 24)), xi 0, xi 0, xi 0, xi 1, xi 0, xi 0, .inr (.inl (some 0)), .inr (.inl (some 0)), .inr (.inl (some 1))]),
  .inr (3, [.inr (.inr (1, 25)), .inr (.inr (1, 27)), .inr (.inr (1, 29)), .inr (.inr (1, 31)), .inr (.inr (1, 33)), .inr (.inr (1, 35))]),
  .inr (3, [.inr (.inr (1, 37)), .inr (.inr (1, 39)), .inr (.inr (1, 41)), .inr (.inr (1, 43))]),
  .inl (6, [.inr (.inr (1, 4)), .inr (.inr (1, 5)), .inr (.inr (1, 6)), .inr (.inr (1, 7)), .inr (.inr (1, 8)), .inr (.inr (1, 9)), .inr (.inl (some 0)), xi 0]),
  .inr (0, [xi 0, xi 0, xi 0, xi 0, xi 0, xi 0, xi 0, xi 0, xi 0, xi 0, xi 0, xi 0, xi 0, xi 0, xi 0, xi 0, xi 0, xi 0, xi 0, xi 0, xi 0, xi 0, xi 0, xi 0, xi 0, xi 0, xi 0, xi 0, xi 0, xi 0, xi 0, xi 0, xi 0, xi 0, xi 0, xi 0, xi 0, xi 0, xi 0, xi 0, xi 0, xi 0, xi 0, xi 0, xi 0, xi 0, xi 0, xi 0, xi 0, xi 0, xi 0, xi 0, xi 0, xi 0, xi 0, xi 0, xi 0, xi 0, xi 0, xi 0, xi 0, xi 0, xi 0, xi 0]),
  .inr (0, [xi 1, xi 1, xi 1, xi 1, xi 1, xi 1, xi 1, xi 1, xi 1, xi 1, xi 1, xi 1, xi 1, xi 1, xi 1, xi 1, xi 1, xi 1, xi 1, xi 1, xi 1, xi 1, xi 1, xi 1, xi 1, xi 1, xi 1, xi 1, xi 1, xi 1, xi 1, xi 1, xi 1, xi 1, xi 1, xi 1, xi 1, xi 1, xi 1, xi 1, xi 1, xi 1, xi 1, xi 1, xi 1, xi 1, xi 1, xi 1, xi 1, xi 1, xi 1, xi 1, xi 1, xi 1, xi 1, xi 1, xi 1, xi 1, xi 1, xi 1, xi 1, xi 1, xi 1, xi 1]),
  .inr (0, [xi 0, xi 0, xi 0, xi 0, xi 0, xi 0, xi 0, xi 0, xi 0, xi 0, xi 0, xi 0, xi 0, xi 0, xi 0, xi 0, xi 0, xi 0, xi 0, xi 0, xi 0, xi 0, xi 0, xi 0, xi 0, xi 0, xi 0, xi 0, xi 0, xi 0, xi 0, xi 0, xi 0, xi 0, xi 0, xi 0, xi 0, xi 0, xi 0, xi 0, xi 0, xi 0, xi 0, xi 0, xi 0, xi 0, xi 0, xi 0, xi 0, xi 0, xi 0, xi 0, xi 0, xi 0, xi 0, xi 0, xi 0, xi 0, xi 0, xi 0, xi 0, xi 0, xi 0, xi 0]),
  .inr (0, [xi (-9), xi (-9), xi (-9), xi (-9), xi (-9), xi (-9), xi (-9), xi (-9), xi (-9), xi (-9), xi (-9), xi (-9), xi (-9), xi (-9), xi (-9), xi (-9), xi (-9), xi (-9), xi (-9), xi (-9), xi (-9), xi (-9), xi (-9), xi (-9), xi (-9), xi (-9), xi (-9), xi (-9), xi (-9), xi (-9), xi (-9), xi (-9), xi (-9), xi (-9), xi (-9), xi (-9), xi (-9), xi (-9), xi (-9), xi (-9), xi (-9), xi (-9), xi (-9), xi (-9), xi (-9), xi (-9), xi (-9), xi (-9), xi (-9), xi (-9), xi (-9), xi (-9), xi (-9), xi (-9), xi (-9), xi (-9), xi (-9), xi (-9), xi (-9), xi (-9), xi (-9), xi (-9), xi (-9), xi (-9)]),
  .inr (1, [.inr (.inl (some 0)), .inr (.inl (some (-1))), .inr (.inl (some 0)), .inr (.inl (some 0)), .inr (.inl (some 0))]),
  .inl (7, [.inr (.inr (1, 10)), .inr (.inl (some 0))]),
  .inr (1, [.inr (.inl (some 0)), .inr (.inl (some 0)), .inr (.inl (some 0)), .inr (.inl (some 0))]),
  .inr (4, [.inr (.inr (1, 45)), .inr (.inr (1, 47)), .inr (.inr (1, 49)), .inr (.inr (1, 51)), .inr (.inr (1, 53)), .inr (.inr (1, 55))]),
  .inr (5, [.inr (.inr (0, 0)), .inr (.inr (0, 0)), .inr (.inr (0, 0)), .inr (.inr (0, 0)), .inr (.inr (0, 0)), .inr (.inr (0, 0)), .inr (.inr (0, 0)), .inr (.inr (0, 0)), .inr (.inr (0, 0)), .inr (.inr (0, 0)), .inr (.inr (0, 0)), .inr (.inr (0, 0)), .inr (.inr (0, 0)), .inr (.inr (0, 0)), .inr (.inr (0, 0)), .inr (.inr (0, 0)), .inr (.inr (0, 0)), .inr (.inr (0, 0)), .inr (.inr (0, 0)), .inr (.inr (0, 0)), .inr (.inr (0, 0)), .inr (.inr (0, 0)), .inr (.inr (0, 0)), .inr (.inr (0, 0)), .inr (.inr (0, 0)), .inr (.inr (0, 0)), .inr (.inr (0, 0)), .inr (.inr (0, 0)), .inr (.inr (0, 0)), .inr (.inr (0, 0)), .inr (.inr (0, 0)), .inr (.inr (0, 0)), .inr (.inr (0, 0)), .inr (.inr (0, 0)), .inr (.inr (0, 0)), .inr (.inr (0, 0)), .inr (.inr (0, 0)), .inr (.inr (0, 0)), .inr (.inr (0, 0)), .inr (.inr (0, 0))]),
  .inr (6, [.inr (.inr (0, 0)), .inr (.inr (0, 0)), .inr (.inr (0, 0)), .inr (.inr (0, 0)), .inr (.inr (0, 0)), .inr (.inr (0, 0)), .inr (.inr (0, 0)), .inr (.inr (0, 0)), .inr (.inr (0, 0)), .inr (.inr (0, 0)), .inr (.inr (0, 0)), .inr (.inr (0, 0)), .inr (.inr (0, 0)), .inr (.inr (0, 0)), .inr (.inr (0, 0)), .inr (.inr (0, 0)), .inr (.inr (0, 0)), .inr (.inr (0, 0)), .inr (.inr (0, 0)), .inr (.inr (0, 0)), .inr (.inr (0, 0)), .inr (.inr (0, 0)), .inr (.inr (0, 0)), .inr (.inr (0, 0)), .inr (.inr (0, 0)), .inr (.inr (0, 0)), .inr (.inr (0, 0)), .inr (.inr (0, 0)), .inr (.inr (0, 0)), .inr (.inr (0, 0)), .inr (.inr (0, 0)), .inr (.inr (0, 0)), .inr (.inr (0, 0)), .inr (.inr (0, 0)), .inr (.inr (0, 0)), .inr (.inr (0, 0)), .inr (.inr (0, 0)), .inr (.inr (0, 0)), .inr (.inr (0, 0)), .inr (.inr (0, 0))]),
  .inl (5, [.inr (.inr (1, 15))]),
  .inr (0, [xi 0, xi 0, xi 0, xi 0]),
  .inl (3, [.inr (.inr (1, 17)), .inr (.inr (1, 18)), xi 0, xi 0]),
  .inr (1, [.inr (.inl (some 0)), .inr (.inl (some 0)), .inr (.inl (some 0)), .inr (.inl (some 0)), .inr (.inl (some 0)), .inr (.inl (some 0)), .inr (.inl (some 0)), .inr (.inl (some 0)), .inr (.inl (some 0)), .inr (.inl (some 0)), .inr (.inl (some 0)), .inr (.inl (some 0)), .inr (.inl (some 0)), .inr (.inl (some 0)), .inr (.inl (some 0)), .inr (.inl (some 0)), .inr (.inl (some 0)), .inr (.inl (some 0)), .inr (.inl (some 0)), .inr (.inl (some 0)), .inr (.inl (some 0))]),
  .inr (2, [xi 0, xi 0, xi 0, xi 0, xi 0, xi 0, xi 0, xi 0, xi 0, xi 0, xi 0, xi 0, xi 0, xi 0, xi 0, xi 0, xi 0, xi 0, xi 0, xi 0, xi 0]),
  .inl (1, [.inr (.inr (1, 20)), .inr (.inr (1, 21)), .inr (.inr (1, 22)), .inr (.inr (1, 23))]),
  .inr (0, [xi 0, xi 0, xi 0, xi 0, xi 0, xi 0, xi 0, xi 0, xi 0, xi 0, xi 0, xi 0, xi 0, xi 0, xi 0, xi 0, xi 0, xi 0, xi 0, xi 0, xi 0, xi 0, xi 0, xi 0, xi 0, xi 0, xi 0, xi 0, xi 0, xi 0, xi 0, xi 0, xi 0, xi 0, xi 0, xi 0, xi 0, xi 0, xi 0, xi 0, xi 0, xi 0, xi 0, xi 0, xi 0, xi 0, xi 0, xi 0, xi 0, xi 0, xi 0, xi 0, xi 0, xi 0, xi 0, xi 0, xi 0, xi 0, xi 0, xi 0, xi 0, xi 0, xi 0, xi 0]),
  .inr (0, [xi 0, xi 0, xi 0, xi 0, xi 0, xi 0, xi 0, xi 0, xi 0, xi 0, xi 0, xi 0, xi 0, xi 0, xi 0, xi 0, xi 0, xi 0, xi 0, xi 0, xi 0, xi 0, xi 0, xi 0, xi 0, xi 0, xi 0, xi 0, xi 0, xi 0, xi 0, xi 0, xi 0, xi 0, xi 0, xi 0, xi 0, xi 0, xi 0, xi 0, xi 0, xi 0, xi 0, xi 0, xi 0, xi 0, xi 0, xi 0, xi 0, xi 0, xi 0, xi 0, xi 0, xi 0, xi 0, xi 0, xi 0, xi 0, xi 0, xi 0, xi 0, xi 0, xi 0, xi 0]),
  .inr (0, [xi 0, xi 0, xi 0, xi 0, xi 0, xi 0, xi 0, xi 0, xi 0, xi 0, xi 0, xi 0, xi 0, xi 0, xi 0, xi 0, xi 0, xi 0, xi 0, xi 0, xi 0, xi 0, xi 0, xi 0, xi 0, xi 0, xi 0, xi 0, xi 0, xi 0, xi 0, xi 0, xi 0, xi 0, xi 0, xi 0, xi 0, xi 0, xi 0, xi 0, xi 0, xi 0, xi 0, xi 0, xi 0, xi 0, xi 0, xi 0, xi 0, xi 0, xi 0, xi 0, xi 0, xi 0, xi 0, xi 0, xi 0, xi 0, xi 0, xi 0, xi 0, xi 0, xi 0, xi 0]),
  .inr (0, [xi 0, xi 0, xi 0, xi 0, xi 0, xi 0, xi 0, xi 0, xi 0, xi 0, xi 0, xi 0, xi 0, xi 0, xi 0, xi 0, xi 0, xi 0, xi 0, xi 0, xi 0, xi 0, xi 0, xi 0, xi 0, xi 0, xi 0, xi 0, xi 0, xi 0, xi 0, xi 0, xi 0, xi 0, xi 0, xi 0, xi 0, xi 0, xi 0, xi 0, xi 0, xi 0, xi 0, xi 0, xi 0, xi 0, xi 0, xi 0, xi 0, xi 0, xi 0, xi 0, xi 0, xi 0, xi 0, xi 0, xi 0, xi 0, xi 0, xi 0, xi 0, xi 0, xi 0, xi 0]),
  .inr (0, [xi 0, xi 0, xi 0, xi 0, xi 0, xi 0]),
  .inl (4, [.inr (.inr (1, 26)), xi (-1)]),
  .inr (0, [xi 0, xi 0, xi 0, xi 0, xi 0, xi 0, xi 0, xi 0, xi 0, xi 0, xi 0, xi 0, xi 0, xi 0, xi 0, xi 0, xi 0, xi 0, xi 0, xi 0, xi 0, xi 0, xi 0, xi 0, xi 0, xi 0, xi 0, xi 0, xi 0, xi 0, xi 0, xi 0, xi 0, xi 0, xi 0, xi 0, xi 0, xi 0, xi 0, xi 0]),
  .inl (4, [.inr (.inr (1, 28)), xi (-1)]),
  .inr (0, [xi 0, xi 0, xi 0, xi 0, xi 0, xi 0, xi 0, xi 0, xi 0, xi 0, xi 0, xi 0, xi 0, xi 0, xi 0, xi 0, xi 0, xi 0, xi 0, xi 0, xi 0, xi 0, xi 0, xi 0, xi 0, xi 0, xi 0, xi 0, xi 0, xi 0, xi 0, xi 0, xi 0, xi 0, xi 0, xi 0, xi 0, xi 0, xi 0, xi 0]),
  .inl (4, [.inr (.inr (1, 30)), xi (-1)]),
  .inr (0, [xi 0, xi 0, xi 0, xi 0, xi 0, xi 0, xi 0, xi 0, xi 0, xi 0, xi 0, xi 0, xi 0, xi 0, xi 0, xi 0, xi 0, xi 0, xi 0, xi 0, xi 0, xi 0, xi 0, xi 0, xi 0, xi 0, xi 0, xi 0, xi 0, xi 0, xi 0, xi 0, xi 0, xi 0, xi 0, xi 0, xi 0, xi 0, xi 0, xi 0]),
  .inl (4, [.inr (.inr (1, 32)), xi (-1)]),
  .inr (0, [xi 0, xi 0, xi 0, xi 0, xi 0, xi 0, xi 0, xi 0, xi 0, xi 0, xi 0, xi 0, xi 0, xi 0, xi 0, xi 0, xi 0, xi 0, xi 0, xi 0, xi 0, xi 0, xi 0, xi 0, xi 0, xi 0, xi 0, xi 0, xi 0, xi 0, xi 0, xi 0, xi 0, xi 0, xi 0, xi 0, xi 0, xi 0, xi 0, xi 0]),
  .inl (4, [.inr (.inr (1, 34)), xi (-1)]),
  .inr (0, [xi 0, xi 0, xi 0, xi 0, xi 0, xi 0, xi 0, xi 0, xi 0, xi 0, xi 0, xi 0, xi 0, xi 0, xi 0, xi 0, xi 0, xi 0, xi 0, xi 0, xi 0, xi 0, xi 0, xi 0, xi 0, xi 0, xi 0, xi 0, xi 0, xi 0, xi 0, xi 0, xi 0, xi 0, xi 0, xi 0, xi 0, xi 0, xi 0, xi 0]),
  .inl (4, [.inr (.inr (1, 36)), xi (-1)]),
  .inr (0, [xi 0, xi 0, xi 0, xi 0, xi 0, xi 0, xi 0, xi 0, xi 0, xi 0, xi 0, xi 0, xi 0, xi 0, xi 0, xi 0, xi 0, xi 0, xi 0, xi 0, xi 0, xi 0, xi 0, xi 0, xi 0, xi 0, xi 0, xi 0, xi 0, xi 0, xi 0, xi 0, xi 0, xi 0, xi 0, xi 0, xi 0, xi 0, xi 0, xi 0]),
  .inl (4, [.inr (.inr (1, 38)), xi (-1)]),
  .inr (0, [xi 0, xi 0, xi 0, xi 0, xi 0, xi 0, xi 0, xi 0, xi 0, xi 0, xi 0, xi 0, xi 0, xi 0, xi 0, xi 0, xi 0, xi 0, xi 0, xi 0, xi 0, xi 0, xi 0, xi 0, xi 0, xi 0, xi 0, xi 0, xi 0, xi 0, xi 0, xi 0, xi 0, xi 0, xi 0, xi 0, xi 0, xi 0, xi 0, xi 0]),
  .inl (4, [.inr (.inr (1, 40)), xi (-1)]),
  .inr (0, [xi 0, xi 0, xi 0, xi 0, xi 0, xi 0, xi 0, xi 0, xi 0, xi 0, xi 0, xi 0, xi 0, xi 0, xi 0, xi 0, xi 0, xi 0, xi 0, xi 0, xi 0, xi 0, xi 0, xi 0, xi 0, xi 0, xi 0, xi 0, xi 0, xi 0, xi 0, xi 0, xi 0, xi 0, xi 0, xi 0, xi 0, xi 0, xi 0, xi 0]),
  .inl (4, [.inr (.inr (1, 42)), xi (-1)]),
  .inr (0, [xi 0, xi 0, xi 0, xi 0, xi 0, xi 0, xi 0, xi 0, xi 0, xi 0, xi 0, xi 0, xi 0, xi 0, xi 0, xi 0, xi 0, xi 0, xi 0, xi 0, xi 0, xi 0, xi 0, xi 0, xi 0, xi 0, xi 0, xi 0, xi 0, xi 0, xi 0, xi 0, xi 0, xi 0, xi 0, xi 0, xi 0, xi 0, xi 0, xi 0]),
  .inl (4, [.inr (.inr (1, 44)), xi (-1)]),
  .inr (0, [xi 0, xi 0, xi 0, xi 0, xi 0, xi 0, xi 0, xi 0, xi 0, xi 0, xi 0, xi 0, xi 0, xi 0, xi 0, xi 0, xi 0, xi 0, xi 0, xi 0, xi 0, xi 0, xi 0, xi 0, xi 0, xi 0, xi 0, xi 0, xi 0, xi 0, xi 0, xi 0, xi 0, xi 0, xi 0, xi 0, xi 0, xi 0, xi 0, xi 0]),
  .inl (0, [.inr (.inr (1, 46)), xi 0, xi 0, xi 100, .inr (.inl (some 1)), xi (-9), xi 0, xi (-9), xi 0, xi 0, xi 0, .inr (.inr (0, 0))]),
  .inr (0, [xi (-9), xi (-9), xi (-9), xi (-9)]),
  .inl (0, [.inr (.inr (1, 48)), xi 0, xi 0, xi 100, .inr (.inl (some 1)), xi (-9), xi 0, xi (-9), xi 0, xi 0, xi 0, .inr (.inr (0, 0))]),
  .inr (0, [xi (-9), xi (-9), xi (-9), xi (-9)]),
  .inl (0, [.inr (.inr (1, 50)), xi 0, xi 0, xi 100, .inr (.inl (some 1)), xi (-9), xi 0, xi (-9), xi 0, xi 0, xi 0, .inr (.inr (0, 0))]),
  .inr (0, [xi (-9), xi (-9), xi (-9), xi (-9)]),
  .inl (0, [.inr (.inr (1, 52)), xi 0, xi 0, xi 100, .inr (.inl (some 1)), xi (-9), xi 0, xi (-9), xi 0, xi 0, xi 0, .inr (.inr (0, 0))]),
  .inr (0, [xi (-9), xi (-9), xi (-9), xi (-9)]),
  .inl (0, [.inr (.inr (1, 54)), xi 0, xi 0, xi 100, .inr (.inl (some 1)), xi (-9), xi 0, xi (-9), xi 0, xi 0, xi 0, .inr (.inr (0, 0))]),
  .inr (0, [xi (-9), xi (-9), xi (-9), xi (-9)]),
  .inl (0, [.inr (.inr (1, 56)), xi 0, xi 0, xi 100, .inr (.inl (some 1)), xi (-9), xi 0, xi (-9), xi 0, xi 0, xi 0, .inr (.inr (0, 0))]),
  .inr (0, [xi (-9), xi (-9), xi (-9), xi (-9)]),
  .inl (10, [xi 0, .inr (.inr (1, 58)), xi 0, .inr (.inl (some 0)), .inr (.inl (some 0)), .inr (.inl (some 1)), xi 0, .inr (.inr (1, 59)), .inr (.inr (1, 60)), .inr (.inr (1, 61)), .inr (.inr (1, 62)), .inr (.inr (1, 63)), .inr (.inr (1, 64)), .inr (.inr (1, 65)), .inr (.inr (1, 66)), .inr (.inr (1, 67)), .inr (.inr (1, 68)), xi 0, xi 1, .inr (.inr (1, 69)), .inr (.inr (1, 70)), .inr (.inr (1, 71)), .inr (.inr (1, 72)), .inr (.inr (1, 73)), .inr (.inr (1, 74)), .inr (.inr (1, 75)), .inr (.inr (1, 76)), .inr (.inr (1, 77)), .inr (.inr (1, 78)), .inr (.inr (1, 79)), xi 0, .inr (.inr (1, 80)), .inr (.inr (1, 81)), .inr (.inr (1, 82)), .inr (.inr (1, 83)), .inr (.inr (1, 84)), xi 0, .inr (.inr (1, 85)), .inr (.inr (1, 86)), .inr (.inr (1, 87)), .inr (.inr (1, 88)), .inr (.inr (1, 89)), .inr (.inr (1, 90)), .inr (.inr (1, 91)), .inr (.inr (1, 92)), .inr (.inr (1, 93)), .inr (.inr (1, 94)), .inr (.inr (1, 95)), .inr (.inr (1, 96)), .inr (.inr (1, 97)), .inr (.inl (some 0))]),
  .inr (0, [xi 0, xi 0, xi 0, xi 0, xi 0, xi 0]),
  .inr (0, [xi (-9), xi (-9), xi (-9), xi (-9), xi (-9), xi (-9)]),
  .inr (0, [xi 0, xi 0, xi 0, xi 0, xi 0, xi 0, xi 0, xi 0, xi 0, xi 0, xi 0, xi 0, xi 0, xi 0, xi 0, xi 0, xi 0, xi 0, xi 0, xi 0, xi 0, xi 0, xi 0, xi 0, xi 0, xi 0, xi 0, xi 0, xi 0, xi 0, xi 0, xi 0, xi 0, xi 0, xi 0, xi 0, xi 0, xi 0, xi 0, xi 0, xi 0, xi 0, xi 0, xi 0, xi 0, xi 0, xi 0, xi 0, xi 0, xi 0, xi 0, xi 0, xi 0, xi 0, xi 0, xi 0, xi 0, xi 0, xi 0, xi 0, xi 0, xi 0, xi 0, xi 0, xi 0, xi 0, xi 0, xi 0, xi 0, xi 0, xi 0, xi 0, xi 0, xi 0, xi 0, xi 0, xi 0, xi 0, xi 0, xi 0, xi 0, xi 0, xi 0, xi 0, xi 0, xi 0, xi 0, xi 0, xi 0, xi 0, xi 0, xi 0, xi 0, xi 0, xi 0, xi 0, xi 0, xi 0, xi 0, xi 0, xi 0, xi 0, xi 0, xi 0, xi 0, xi 0, xi 0, xi 0, xi 0, xi 0, xi 0, xi 0, xi 0, xi 0, xi 0, xi 0, xi 0, xi 0, xi 0, xi 0, xi 0, xi 0, xi 0, xi 0, xi 0, xi 0, xi 0, xi 0, xi 0, xi 0, xi 0, xi 0, xi 0, xi 0, xi 0, xi 0, xi 0, xi 0, xi 0, xi 0, xi 0, xi 0, xi 0, xi 0, xi 0, xi 0, xi 0, xi 0, xi 0, xi 0, xi 0, xi 0, xi 0, xi 0, xi 0, xi 0, xi 0, xi 0, xi 0, xi 0, xi 0, xi 0, xi 0, xi 0, xi 0, xi 0, xi 0, xi 0, xi 0, xi 0, xi 0, xi 0, xi 0, xi 0, xi 0, xi 0, xi 0, xi 0, xi 0, xi 0, xi 0, xi 0, xi 0, xi 0, xi 0, xi 0, xi 0, xi 0, xi 0, xi 0, xi 0, xi 0, xi 0, xi 0, xi 0, xi 0, xi 0, xi 0, xi 0, xi 0, xi 0, xi 0, xi 0, xi 0, xi 0, xi 0, xi 0, xi 0, xi 0, xi 0, xi 0, xi 0, xi 0, xi 0, xi 0, xi 0, xi 0, xi 0, xi 0, xi 0, xi 0, xi 0, xi 0, xi 0, xi 0, xi 0, xi 0, xi 0, xi 0, xi 0, xi 0, xi 0, xi 0, xi 0, xi 0, xi 0, xi 0, xi 0, xi 0, xi 0]),
  .inr (0, [xi 0, xi 0, xi 0, xi 0, xi 0, xi 0, xi 0, xi 0, xi 0, xi 0, xi 0, xi 0, xi 0, xi 0, xi 0, xi 0, xi 0, xi 0, xi 0, xi 0, xi 0, xi 0, xi 0, xi 0, xi 0, xi 0, xi 0, xi 0, xi 0, xi 0, xi 0, xi 0, xi 0, xi 0, xi 0, xi 0, xi 0, xi 0, xi 0, xi 0]),
  .inr (0, [xi (-9), xi (-9), xi (-9), xi (-9)]),
  .inr (0, [xi 0, xi 0, xi 0, xi 0, xi 0, xi 0, xi 0, xi 0, xi 0, xi 0, xi 0, xi 0, xi 0, xi 0, xi 0, xi 0, xi 0, xi 0, xi 0, xi 0, xi 0, xi 0, xi 0, xi 0, xi 0, xi 0, xi 0, xi 0, xi 0, xi 0, xi 0, xi 0, xi 0, xi 0, xi 0, xi 0, xi 0, xi 0, xi 0, xi 0, xi 0, xi 0, xi 0, xi 0, xi 0, xi 0, xi 0, xi 0, xi 0, xi 0, xi 0, xi 0, xi 0, xi 0, xi 0, xi 0, xi 0, xi 0, xi 0, xi 0, xi 0, xi 0, xi 0, xi 0, xi 0, xi 0, xi 0, xi 0, xi 0, xi 0, xi 0, xi 0, xi 0, xi 0, xi 0, xi 0, xi 0, xi 0, xi 0, xi 0, xi 0, xi 0, xi 0, xi 0, xi 0, xi 0, xi 0, xi 0, xi 0, xi 0, xi 0, xi 0, xi 0, xi 0, xi 0, xi 0, xi 0, xi 0, xi 0, xi 0, xi 0, xi 0, xi 0, xi 0, xi 0, xi 0, xi 0, xi 0, xi 0, xi 0, xi 0, xi 0, xi 0, xi 0, xi 0, xi 0, xi 0, xi 0, xi 0, xi 0, xi 0, xi 0, xi 0, xi 0, xi 0, xi 0, xi 0, xi 0, xi 0, xi 0, xi 0, xi 0, xi 0, xi 0, xi 0, xi 0, xi 0, xi 0, xi 0, xi 0, xi 0, xi 0, xi 0, xi 0, xi 0, xi 0, xi 0, xi 0, xi 0, xi 0, xi 0, xi 0, xi 0, xi 0, xi 0, xi 0, xi 0, xi 0, xi 0, xi 0]),
  .inr (2, [xi 0, xi 0, xi 0, xi 0, xi 0, xi 0, xi 0, xi 0, xi 0, xi 0, xi 0, xi 0, xi 0, xi 0, xi 0, xi 0, xi 0, xi 0, xi 0, xi 0, xi 0, xi 0, xi 0, xi 0, xi 0, xi 0, xi 0, xi 0, xi 0, xi 0, xi 0, xi 0, xi 0, xi 0, xi 0, xi 0, xi 0, xi 0, xi 0, xi 0, xi 0, xi 0, xi 0, xi 0, xi 0, xi 0, xi 0, xi 0, xi 0, xi 0, xi 0, xi 0, xi 0, xi 0, xi 0, xi 0, xi 0, xi 0, xi 0, xi 0, xi 0, xi 0, xi 0, xi 0]),
  .inr (0, [xi 0, xi 0, xi 0, xi 0, xi 0, xi 0, xi 0, xi 0, xi 0, xi 0, xi 0, xi 0, xi 0, xi 0, xi 0, xi 0, xi 0, xi 0, xi 0, xi 0, xi 0, xi 0, xi 0, xi 0, xi 0, xi 0, xi 0, xi 0, xi 0, xi 0, xi 0, xi 0, xi 0, xi 0, xi 0, xi 0, xi 0, xi 0, xi 0, xi 0, xi 0, xi 0, xi 0, xi 0, xi 0, xi 0, xi 0, xi 0, xi 0, xi 0, xi 0, xi 0, xi 0, xi 0, xi 0, xi 0, xi 0, xi 0, xi 0, xi 0, xi 0, xi 0, xi 0, xi 0]),
  .inr (0, [xi 1, xi 1, xi 1, xi 1, xi 1, xi 1, xi 1, xi 1, xi 1, xi 1, xi 1, xi 1, xi 1, xi 1, xi 1, xi 1, xi 1, xi 1, xi 1, xi 1, xi 1, xi 1, xi 1, xi 1, xi 1, xi 1, xi 1, xi 1, xi 1, xi 1, xi 1, xi 1, xi 1, xi 1, xi 1, xi 1, xi 1, xi 1, xi 1, xi 1, xi 1, xi 1, xi 1, xi 1, xi 1, xi 1, xi 1, xi 1, xi 1, xi 1, xi 1, xi 1, xi 1, xi 1, xi 1, xi 1, xi 1, xi 1, xi 1, xi 1, xi 1, xi 1, xi 1, xi 1]),
  .inr (0, [xi 0, xi 0, xi 0, xi 0, xi 0, xi 0, xi 0, xi 0, xi 0, xi 0, xi 0, xi 0, xi 0, xi 0, xi 0, xi 0, xi 0, xi 0, xi 0, xi 0, xi 0, xi 0, xi 0, xi 0, xi 0, xi 0, xi 0, xi 0, xi 0, xi 0, xi 0, xi 0, xi 0, xi 0, xi 0, xi 0, xi 0, xi 0, xi 0, xi 0, xi 0, xi 0, xi 0, xi 0, xi 0, xi 0, xi 0, xi 0, xi 0, xi 0, xi 0, xi 0, xi 0, xi 0, xi 0, xi 0, xi 0, xi 0, xi 0, xi 0, xi 0, xi 0, xi 0, xi 0]),
  .inr (0, [xi (-9), xi (-9), xi (-9), xi (-9), xi (-9), xi (-9), xi (-9), xi (-9), xi (-9), xi (-9), xi (-9), xi (-9), xi (-9), xi (-9), xi (-9), xi (-9), xi (-9), xi (-9), xi (-9), xi (-9), xi (-9), xi (-9), xi (-9), xi (-9), xi (-9), xi (-9), xi (-9), xi (-9), xi (-9), xi (-9), xi (-9), xi (-9), xi (-9), xi (-9), xi (-9), xi (-9), xi (-9), xi (-9), xi (-9), xi (-9), xi (-9), xi (-9), xi (-9), xi (-9), xi (-9), xi (-9), xi (-9), xi (-9), xi (-9), xi (-9), xi (-9), xi (-9), xi (-9), xi (-9), xi (-9), xi (-9), xi (-9), xi (-9), xi (-9), xi (-9), xi (-9), xi (-9), xi (-9), xi (-9)]),
  .inr (0, [xi 0, xi 0, xi 0, xi 0, xi 0, xi 0, xi 0, xi 0, xi 0, xi 0, xi 0, xi 0, xi 0, xi 0, xi 0, xi 0, xi 0, xi 0, xi 0, xi 0, xi 0, xi 0, xi 0, xi 0, xi 0, xi 0, xi 0, xi 0, xi 0, xi 0, xi 0, xi 0, xi 0, xi 0, xi 0, xi 0, xi 0, xi 0, xi 0, xi 0, xi 0, xi 0, xi 0, xi 0, xi 0, xi 0, xi 0, xi 0, xi 0, xi 0, xi 0, xi 0, xi 0, xi 0, xi 0, xi 0, xi 0, xi 0, xi 0, xi 0, xi 0, xi 0, xi 0, xi 0]),
  .inr (0, [xi 0, xi 0, xi 0, xi 0, xi 0, xi 0]),
  .inr (0, [xi 0, xi 0, xi 0, xi 0, xi 0, xi 0]),
  .inr (0, [xi 100, xi 100, xi 100, xi 100, xi 100, xi 100]),
  .inr (1, [.inr (.inl (some 1)), .inr (.inl (some 1)), .inr (.inl (some 1)), .inr (.inl (some 1)), .inr (.inl (some 1)), .inr (.inl (some 1))]),
  .inr (0, [xi (-9), xi (-9), xi (-9), xi (-9), xi (-9), xi (-9)]),
  .inr (0, [xi 0, xi 0, xi 0, xi 0, xi 0, xi 0]),
  .inr (0, [xi (-9), xi (-9), xi (-9), xi (-9), xi (-9), xi (-9)]),
  .inr (0, [xi 0, xi 0, xi 0, xi 0, xi 0, xi 0]),
  .inr (0, [xi 0, xi 0, xi 0, xi 0, xi 0, xi 0]),
  .inr (0, [xi 0, xi 0, xi 0, xi 0, xi 0, xi 0]),
  .inr (0, [xi 0, xi 0, xi 0, xi 0, xi 0, xi 0, xi 0, xi 0, xi 0, xi 0, xi 0, xi 0, xi 0, xi 0, xi 0, xi 0, xi 0, xi 0, xi 0, xi 0, xi 0, xi 0, xi 0, xi 0, xi 0, xi 0, xi 0, xi 0, xi 0, xi 0, xi 0, xi 0, xi 0, xi 0, xi 0, xi 0, xi 0, xi 0, xi 0, xi 0]),
  .inr (0, [xi 0, xi 0, xi 0, xi 0, xi 0, xi 0, xi 0, xi 0, xi 0, xi 0, xi 0, xi 0, xi 0, xi 0, xi 0, xi 0, xi 0, xi 0, xi 0, xi 0, xi 0, xi 0, xi 0, xi 0, xi 0, xi 0, xi 0, xi 0, xi 0, xi 0, xi 0, xi 0, xi 0, xi 0, xi 0, xi 0, xi 0, xi 0, xi 0, xi 0]),
  .inr (0, [xi 0, xi 0, xi 0, xi 0, xi 0, xi 0, xi 0, xi 0, xi 0, xi 0, xi 0, xi 0, xi 0, xi 0, xi 0, xi 0, xi 0, xi 0, xi 0, xi 0, xi 0, xi 0, xi 0, xi 0, xi 0, xi 0, xi 0, xi 0, xi 0, xi 0, xi 0, xi 0, xi 0, xi 0, xi 0, xi 0, xi 0, xi 0, xi 0, xi 0]),
  .inr (0, [xi 0, xi 0, xi 0, xi 0, xi 0, xi 0, xi 0, xi 0, xi 0, xi 0, xi 0, xi 0, xi 0, xi 0, xi 0, xi 0, xi 0, xi 0, xi 0, xi 0, xi 0, xi 0, xi 0, xi 0, xi 0, xi 0, xi 0, xi 0, xi 0, xi 0, xi 0, xi 0, xi 0, xi 0, xi 0, xi 0, xi 0, xi 0, xi 0, xi 0]),
  .inr (0, [xi 0, xi 0, xi 0, xi 0, xi 0, xi 0, xi 0, xi 0, xi 0, xi 0, xi 0, xi 0, xi 0, xi 0, xi 0, xi 0, xi 0, xi 0, xi 0, xi 0, xi 0, xi 0, xi 0, xi 0, xi 0, xi 0, xi 0, xi 0, xi 0, xi 0, xi 0, xi 0, xi 0, xi 0, xi 0, xi 0, xi 0, xi 0, xi 0, xi 0]),
  .inr (0, [xi 0, xi 0, xi 0, xi 0, xi 0, xi 0, xi 0, xi 0, xi 0, xi 0, xi 0, xi 0, xi 0, xi 0, xi 0, xi 0, xi 0, xi 0, xi 0, xi 0, xi 0, xi 0, xi 0, xi 0, xi 0, xi 0, xi 0, xi 0, xi 0, xi 0, xi 0, xi 0, xi 0, xi 0, xi 0, xi 0, xi 0, xi 0, xi 0, xi 0]),
  .inr (0, [xi 0, xi 0, xi 0, xi 0, xi 0, xi 0, xi 0, xi 0, xi 0, xi 0, xi 0, xi 0, xi 0, xi 0, xi 0, xi 0, xi 0, xi 0, xi 0, xi 0, xi 0, xi 0, xi 0, xi 0, xi 0, xi 0, xi 0, xi 0, xi 0, xi 0, xi 0, xi 0, xi 0, xi 0, xi 0, xi 0, xi 0, xi 0, xi 0, xi 0]),
  .inr (0, [xi 0, xi 0, xi 0, xi 0, xi 0, xi 0, xi 0, xi 0, xi 0, xi 0, xi 0, xi 0, xi 0, xi 0, xi 0, xi 0, xi 0, xi 0, xi 0, xi 0, xi 0, xi 0, xi 0, xi 0, xi 0, xi 0, xi 0, xi 0, xi 0, xi 0, xi 0, xi 0, xi 0, xi 0, xi 0, xi 0, xi 0, xi 0, xi 0, xi 0]),
  .inr (0, [xi 0, xi 0, xi 0, xi 0, xi 0, xi 0, xi 0, xi 0, xi 0, xi 0, xi 0, xi 0, xi 0, xi 0, xi 0, xi 0, xi 0, xi 0, xi 0, xi 0, xi 0, xi 0, xi 0, xi 0, xi 0, xi 0, xi 0, xi 0, xi 0, xi 0, xi 0, xi 0, xi 0, xi 0, xi 0, xi 0, xi 0, xi 0, xi 0, xi 0]),
  .inr (1, [.inr (.inl (some 0)), .inr (.inl (some 0)), .inr (.inl (some 0)), .inr (.inl (some 0)), .inr (.inl (some 0)), .inr (.inl (some 0)), .inr (.inl (some 0)), .inr (.inl (some 0)), .inr (.inl (some 0)), .inr (.inl (some 0)), .inr (.inl (some 0)), .inr (.inl (some 0)), .inr (.inl (some 0)), .inr (.inl (some 0)), .inr (.inl (some 0)), .inr (.inl (some 0)), .inr (.inl (some 0)), .inr (.inl (some 0)), .inr (.inl (some 0)), .inr (.inl (some 0)), .inr (.inl (some 0)), .inr (.inl (some 0)), .inr (.inl (some 0)), .inr (.inl (some 0)), .inr (.inl (some 0)), .inr (.inl (some 0)), .inr (.inl (some 0)), .inr (.inl (some 0)), .inr (.inl (some 0)), .inr (.inl (some 0)), .inr (.inl (some 0)), .inr (.inl (some 0)), .inr (.inl (some 0)), .inr (.inl (some 0)), .inr (.inl (some 0)), .inr (.inl (some 0)), .inr (.inl (some 0)), .inr (.inl (some 0)), .inr (.inl (some 0)), .inr (.inl (some 0))]),
  .inr (0, [xi 0, xi 0, xi 0, xi 0, xi 0, xi 0, xi 0, xi 0, xi 0, xi 0, xi 0, xi 0, xi 0, xi 0, xi 0, xi 0, xi 0, xi 0, xi 0, xi 0, xi 0, xi 0, xi 0, xi 0, xi 0, xi 0, xi 0, xi 0, xi 0, xi 0, xi 0, xi 0, xi 0, xi 0, xi 0, xi 0, xi 0, xi 0, xi 0, xi 0, xi 0, xi 0, xi 0, xi 0, xi 0, xi 0, xi 0, xi 0, xi 0, xi 0, xi 0, xi 0, xi 0, xi 0, xi 0, xi 0, xi 0, xi 0, xi 0, xi 0, xi 0, xi 0, xi 0, xi 0, xi 0, xi 0, xi 0, xi 0, xi 0, xi 0, xi 0, xi 0, xi 0, xi 0, xi 0, xi 0, xi 0, xi 0, xi 0, xi 0, xi 0, xi 0, xi 0, xi 0, xi 0, xi 0, xi 0, xi 0, xi 0, xi 0, xi 0, xi 0, xi 0, xi 0, xi 0, xi 0, xi 0, xi 0, xi 0, xi 0, xi 0, xi 0, xi 0, xi 0, xi 0, xi 0, xi 0, xi 0, xi 0, xi 0, xi 0, xi 0, xi 0, xi 0, xi 0, xi 0, xi 0, xi 0, xi 0, xi 0, xi 0, xi 0, xi 0, xi 0, xi 0, xi 0, xi 0, xi 0, xi 0, xi 0, xi 0, xi 0, xi 0, xi 0, xi 0, xi 0, xi 0, xi 0, xi 0, xi 0, xi 0, xi 0, xi 0, xi 0, xi 0, xi 0, xi 0, xi 0, xi 0, xi 0, xi 0, xi 0, xi 0, xi 0, xi 0, xi 0, xi 0, xi 0, xi 0, xi 0, xi 0, xi 0, xi 0, xi 0, xi 0, xi 0, xi 0, xi 0, xi 0, xi 0, xi 0, xi 0, xi 0, xi 0, xi 0, xi 0, xi 0, xi 0, xi 0, xi 0, xi 0, xi 0, xi 0, xi 0, xi 0, xi 0, xi 0, xi 0, xi 0, xi 0, xi 0, xi 0, xi 0, xi 0, xi 0, xi 0, xi 0, xi 0, xi 0, xi 0, xi 0, xi 0, xi 0, xi 0, xi 0, xi 0, xi 0, xi 0, xi 0, xi 0, xi 0, xi 0, xi 0, xi 0, xi 0, xi 0, xi 0, xi 0, xi 0, xi 0, xi 0, xi 0, xi 0, xi 0, xi 0, xi 0, xi 0, xi 0, xi 0, xi 0, xi 0, xi 0, xi 0, xi 0, xi 0, xi 0, xi 0, xi 0, xi 0, xi 0]),
  .inr (0, [xi 0, xi 0, xi 0, xi 0, xi 0, xi 0, xi 0, xi 0, xi 0, xi 0, xi 0, xi 0, xi 0, xi 0, xi 0, xi 0, xi 0, xi 0, xi 0, xi 0, xi 0, xi 0, xi 0, xi 0, xi 0, xi 0, xi 0, xi 0, xi 0, xi 0, xi 0, xi 0, xi 0, xi 0, xi 0, xi 0, xi 0, xi 0, xi 0, xi 0, xi 0, xi 0, xi 0, xi 0, xi 0, xi 0, xi 0, xi 0, xi 0, xi 0, xi 0, xi 0, xi 0, xi 0, xi 0, xi 0, xi 0, xi 0, xi 0, xi 0, xi 0, xi 0, xi 0, xi 0, xi 0, xi 0, xi 0, xi 0, xi 0, xi 0, xi 0, xi 0, xi 0, xi 0, xi 0, xi 0, xi 0, xi 0, xi 0, xi 0, xi 0, xi 0, xi 0, xi 0, xi 0, xi 0, xi 0, xi 0, xi 0, xi 0, xi 0, xi 0, xi 0, xi 0, xi 0, xi 0, xi 0, xi 0, xi 0, xi 0, xi 0, xi 0, xi 0, xi 0, xi 0, xi 0, xi 0, xi 0, xi 0, xi 0, xi 0, xi 0, xi 0, xi 0, xi 0, xi 0, xi 0, xi 0, xi 0, xi 0, xi 0, xi 0, xi 0, xi 0, xi 0, xi 0, xi 0, xi 0, xi 0, xi 0, xi 0, xi 0, xi 0, xi 0, xi 0, xi 0, xi 0, xi 0, xi 0, xi 0, xi 0, xi 0, xi 0, xi 0, xi 0, xi 0, xi 0, xi 0, xi 0, xi 0, xi 0, xi 0, xi 0, xi 0, xi 0, xi 0, xi 0, xi 0, xi 0, xi 0, xi 0, xi 0, xi 0, xi 0, xi 0, xi 0, xi 0, xi 0, xi 0, xi 0, xi 0, xi 0, xi 0, xi 0, xi 0, xi 0, xi 0, xi 0, xi 0, xi 0, xi 0, xi 0, xi 0, xi 0, xi 0, xi 0, xi 0, xi 0, xi 0, xi 0, xi 0, xi 0, xi 0, xi 0, xi 0, xi 0, xi 0, xi 0, xi 0, xi 0, xi 0, xi 0, xi 0, xi 0, xi 0, xi 0, xi 0, xi 0, xi 0, xi 0, xi 0, xi 0, xi 0, xi 0, xi 0, xi 0, xi 0, xi 0, xi 0, xi 0, xi 0, xi 0, xi 0, xi 0, xi 0, xi 0, xi 0, xi 0, xi 0, xi 0, xi 0, xi 0, xi 0, xi 0, xi 0, xi 0, xi 0, xi 0, xi 0, xi 0]),
  .inr (0, [xi (-9), xi (-9), xi (-9), xi (-9), xi (-9), xi (-9), xi (-9), xi (-9), xi (-9), xi (-9), xi (-9), xi (-9), xi (-9), xi (-9), xi (-9), xi (-9), xi (-9), xi (-9), xi (-9), xi (-9), xi (-9), xi (-9), xi (-9), xi (-9)]),
  .inr (0, [xi 0, xi 0, xi 0, xi 0]),
  .inr (0, [xi 0, xi 0, xi 0]),
  .inr (1, [.inr (.inl (some 0)), .inr (.inl (some 0)), .inr (.inl (some 0)), .inr (.inl (some 0)), .inr (.inl (some 0)), .inr (.inl (some 0)), .inr (.inl (some 0)), .inr (.inl (some 0)), .inr (.inl (some 0)), .inr (.inl (some 0)), .inr (.inl (some 0)), .inr (.inl (some 0)), .inr (.inl (some 0)), .inr (.inl (some 0)), .inr (.inl (some 0)), .inr (.inl (some 0)), .inr (.inl (some 0)), .inr (.inl (some 0)), .inr (.inl (some 0)), .inr (.inl (some 0)), .inr (.inl (some 0))]),
  .inr (1, [.inr (.inl (some 0)), .inr (.inl (some 0)), .inr (.inl (some 0)), .inr (.inl (some 0)), .inr (.inl (some 0)), .inr (.inl (some 0)), .inr (.inl (some 0)), .inr (.inl (some 0)), .inr (.inl (some 0)), .inr (.inl (some 0)), .inr (.inl (some 0)), .inr (.inl (some 0)), .inr (.inl (some 0)), .inr (.inl (some 0)), .inr (.inl (some 0)), .inr (.inl (some 0)), .inr (.inl (some 0)), .inr (.inl (some 0)), .inr (.inl (some 0)), .inr (.inl (some 0)), .inr (.inl (some 0)), .inr (.inl (some 0)), .inr (.inl (some 0)), .inr (.inl (some 0)), .inr (.inl (some 0)), .inr (.inl (some 0)), .inr (.inl (some 0)), .inr (.inl (some 0)), .inr (.inl (some 0)), .inr (.inl (some 0)), .inr (.inl (some 0)), .inr (.inl (some 0)), .inr (.inl (some 0)), .inr (.inl (some 0)), .inr (.inl (some 0)), .inr (.inl (some 0)), .inr (.inl (some 0)), .inr (.inl (some 0)), .inr (.inl (some 0)), .inr (.inl (some 0)), .inr (.inl (some 0)), .inr (.inl (some 0)), .inr (.inl (some 0)), .inr (.inl (some 0)), .inr (.inl (some 0)), .inr (.inl (some 0)), .inr (.inl (some 0)), .inr (.inl (some 0)), .inr (.inl (some 0)), .inr (.inl (some 0)), .inr (.inl (some 0)), .inr (.inl (some 0)), .inr (.inl (some 0)), .inr (.inl (some 0)), .inr (.inl (some 0)), .inr (.inl (some 0)), .inr (.inl (some 0)), .inr (.inl (some 0)), .inr (.inl (some 0)), .inr (.inl (some 0)), .inr (.inl (some 0)), .inr (.inl (some 0)), .inr (.inl (some 0)), .inr (.inl (some 0))]),
  .inr (1, [.inr (.inl (some 0)), .inr (.inl (some 0)), .inr (.inl (some 0)), .inr (.inl (some 0)), .inr (.inl (some 0)), .inr (.inl (some 0)), .inr (.inl (some 0)), .inr (.inl (some 0)), .inr (.inl (some 0)), .inr (.inl (some 0)), .inr (.inl (some 0)), .inr (.inl (some 0)), .inr (.inl (some 0)), .inr (.inl (some 0)), .inr (.inl (some 0)), .inr (.inl (some 0)), .inr (.inl (some 0)), .inr (.inl (some 0)), .inr (.inl (some 0)), .inr (.inl (some 0)), .inr (.inl (some 0)), .inr (.inl (some 0)), .inr (.inl (some 0)), .inr (.inl (some 0)), .inr (.inl (some 0)), .inr (.inl (some 0)), .inr (.inl (some 0)), .inr (.inl (some 0)), .inr (.inl (some 0)), .inr (.inl (some 0)), .inr (.inl (some 0)), .inr (.inl (some 0)), .inr (.inl (some 0)), .inr (.inl (some 0)), .inr (.inl (some 0)), .inr (.inl (some 0)), .inr (.inl (some 0)), .inr (.inl (some 0)), .inr (.inl (some 0)), .inr (.inl (some 0)), .inr (.inl (some 0)), .inr (.inl (some 0)), .inr (.inl (some 0)), .inr (.inl (some 0)), .inr (.inl (some 0)), .inr (.inl (some 0)), .inr (.inl (some 0)), .inr (.inl (some 0)), .inr (.inl (some 0)), .inr (.inl (some 0)), .inr (.inl (some 0)), .inr (.inl (some 0)), .inr (.inl (some 0)), .inr (.inl (some 0)), .inr (.inl (some 0)), .inr (.inl (some 0)), .inr (.inl (some 0)), .inr (.inl (some 0)), .inr (.inl (some 0)), .inr (.inl (some 0)), .inr (.inl (some 0)), .inr (.inl (some 0)), .inr (.inl (some 0)), .inr (.inl (some 0))])]
def xlv : XL := [(3, xi 0), (2, .inr (.inr (1, 57))), (1, .inr (.inr (1, 0))), (0, .inr (.inr (2, 5)))]
def xsc (n : Nat) : List XV := List.replicate n (.inl xtop)
def xS0 : XS := (0, [(0, .inr (.inr (2, 5)))], [], [], 0, 0)
def xS20 : XS := (32, xlv, [xi 63, .inl xtop], xw0, 162, 6070)
def xS (j : Nat) : XS := (33, xlv, [xi j], xw0, 162, 6070)
def xd1 : DecidableEq XV := inferInstance
def xd2 : DecidableEq XL := by
  letI := xd1
  exact inferInstance
def xd3 : DecidableEq (List XV) := by
  letI := xd1
  exact inferInstance
def xd4 : DecidableEq XC := by
  letI := xd3
  exact inferInstance
def xd5 : DecidableEq XW := by
  letI := xd4
  exact inferInstance
def xd6 : DecidableEq XS := by
  letI := xd2
  letI := xd3
  letI := xd5
  exact inferInstance
def xd7 : DecidableEq (Option XS) := by
  letI := xd6
  exact inferInstance
theorem x_pre20 : xsteps (xlst 20 (xsc 6)) 20 xS0 = some xS20 := @of_decide_eq_true _ (xd7 _ _) (show @decide _ (xd7 (xsteps (xlst 20 (xsc 6)) 20 xS0) (some xS20)) = true by decide +kernel)
def xrg {β : Type} (a : Int) (n : Nat) (f g : β) : List ((Int × Int) × β) := ((-2147483648, a - 1), f) :: ((List.range n).map (fun (i : Nat) => ((a + (i : Int), a + (i : Int)), g)) ++ [((a + (n : Int), 2147483647), f)])
def xiv {β : Type} (a b : Int) (f g : β) : List ((Int × Int) × β) := [((-2147483648, a - 1), f), ((a, b), g), ((b + 1, 2147483647), f)]
def xcut {β : Type} (a : Int) (f g : β) : List ((Int × Int) × β) := [((-2147483648, a - 1), f), ((a, 2147483647), g)]
def xtp {β : Type} (f : β) : List ((Int × Int) × β) := [((-2147483648, 2147483647), f)]
def xA1 : XB1 := xtp ()
def xA2 : XB2 := xtp xA1
def xA3 : XB3 := xtp xA2
def xA4 : XB4 := xtp xA3
def xA5 : XB5 := xtp xA4
end
section
/-! ===== runs ===== -/
theorem xop_12 : xchk5 (xA5) (fun sc => xgood sc (xS 12)) = true := by decide +kernel
theorem xop_39 : xchk5 (xA5) (fun sc => xgood sc (xS 39)) = true := by decide +kernel
theorem xop_11 : xchk5 (xiv 0 63 xA4 xA4) (fun sc => xgood sc (xS 11)) = true := by decide +kernel
theorem xop_9 : xchk5 (xiv 0 63 xA4 (xrg 0 5 xA3 xA3)) (fun sc => xgood sc (xS 9)) = true := by decide +kernel
theorem xop_45 : xchk5 (xrg 1 5 xA4 xA4) (fun sc => xgood sc (xS 45)) = true := by decide +kernel
end
section
/-! ===== runs ===== -/
theorem xop_1 : xchk5 (xrg 0 6 xA4 xA4) (fun sc => xgood sc (xS 1)) = true := by decide +kernel
theorem xop_2 : xchk5 (xrg 0 6 xA4 xA4) (fun sc => xgood sc (xS 2)) = true := by decide +kernel
theorem xop_3 : xchk5 (xrg 0 6 (xtp (xrg 0 6 xA2 xA2)) (xtp (xrg 0 6 xA2 (xtp (xcut 0 () ()))))) (fun sc => xgood sc (xS 3)) = true := by decide +kernel
theorem xop_4 : xchk5 (xrg 0 6 xA4 xA4) (fun sc => xgood sc (xS 4)) = true := by decide +kernel
theorem xop_6 : xchk5 (xrg 0 4 xA4 xA4) (fun sc => xgood sc (xS 6)) = true := by decide +kernel
theorem xop_7 : xchk5 ([((-2147483648, -1), xrg 0 1 xA3 xA3), ((0, 0), xrg 0 1 xA3 xA3), ((1, 63), xrg 0 1 xA3 xA3), ((64, 2147483647), xrg 0 1 xA3 xA3)]) (fun sc => xgood sc (xS 7)) = true := by decide +kernel
theorem xop_8 : xchk5 (xiv 0 63 xA4 (xiv 0 4 xA3 (xrg 1 4 xA2 (xiv 0 9 xA1 xA1)))) (fun sc => xgood sc (xS 8)) = true := by decide +kernel
theorem xop_10 : xchk5 (xiv 0 63 xA4 [((-2147483648, -10), xA3), ((-9, -9), xA3), ((-8, -1), xA3), ((0, 9), xA3), ((10, 2147483647), xA3)]) (fun sc => xgood sc (xS 10)) = true := by decide +kernel
theorem xop_13 : xchk5 (xrg 0 6 xA4 (xiv 0 3 xA3 (xiv 0 63 xA2 (xiv 0 1000 xA1 xA1)))) (fun sc => xgood sc (xS 13)) = true := by decide +kernel
theorem xop_14 : xchk5 (xrg 0 6 xA4 (xrg 0 6 xA3 xA3)) (fun sc => xgood sc (xS 14)) = true := by decide +kernel
theorem xop_15 : xchk5 (xrg 0 6 xA4 (xrg 1 6 xA3 xA3)) (fun sc => xgood sc (xS 15)) = true := by decide +kernel
theorem xop_16 : xchk5 (xrg 0 6 xA4 xA4) (fun sc => xgood sc (xS 16)) = true := by decide +kernel
theorem xop_17 : xchk5 (xrg 0 6 xA4 (xiv 0 4 xA3 xA3)) (fun sc => xgood sc (xS 17)) = true := by decide +kernel
theorem xop_19 : xchk5 (xrg 0 6 xA4 xA4) (fun sc => xgood sc (xS 19)) = true := by decide +kernel
theorem xop_20 : xchk5 (xcut 0 xA4 xA4) (fun sc => xgood sc (xS 20)) = true := by decide +kernel
theorem xop_21 : xchk5 (xrg 0 6 xA4 xA4) (fun sc => xgood sc (xS 21)) = true := by decide +kernel
theorem xop_22 : xchk5 (xrg 0 6 xA4 xA4) (fun sc => xgood sc (xS 22)) = true := by decide +kernel
theorem xop_25 : xchk5 (xcut 0 xA4 xA4) (fun sc => xgood sc (xS 25)) = true := by decide +kernel
theorem xop_26 : xchk5 (xcut 0 xA4 xA4) (fun sc => xgood sc (xS 26)) = true := by decide +kernel
theorem xop_27 : xchk5 (xcut 0 xA4 xA4) (fun sc => xgood sc (xS 27)) = true := by decide +kernel
theorem xop_28 : xchk5 (xcut 0 xA4 xA4) (fun sc => xgood sc (xS 28)) = true := by decide +kernel
theorem xop_29 : xchk5 (xcut 0 xA4 xA4) (fun sc => xgood sc (xS 29)) = true := by decide +kernel
theorem xop_30 : xchk5 (xrg 0 4 xA4 xA4) (fun sc => xgood sc (xS 30)) = true := by decide +kernel
theorem xop_31 : xchk5 (xrg 0 6 (xrg 0 4 xA3 xA3) (xrg 0 4 xA3 xA3)) (fun sc => xgood sc (xS 31)) = true := by decide +kernel
theorem xop_32 : xchk5 (xrg 0 6 xA4 (xrg 0 4 xA3 xA3)) (fun sc => xgood sc (xS 32)) = true := by decide +kernel
theorem xop_33 : xchk5 (xrg 0 6 xA4 xA4) (fun sc => xgood sc (xS 33)) = true := by decide +kernel
theorem xop_34 : xchk5 (xrg 0 6 (xrg 0 6 xA3 xA3) (xrg 0 6 xA3 (xiv 1 16 xA2 xA2))) (fun sc => xgood sc (xS 34)) = true := by decide +kernel
theorem xop_35 : xchk5 (xiv 0 63 xA4 xA4) (fun sc => xgood sc (xS 35)) = true := by decide +kernel
theorem xop_37 : xchk5 (xiv 0 63 (xrg 0 6 xA3 xA3) (xrg 0 6 xA3 xA3)) (fun sc => xgood sc (xS 37)) = true := by decide +kernel
theorem xop_38 : xchk5 (xiv 0 63 (xrg 0 6 (xrg 0 6 xA2 xA2) (xrg 0 6 xA2 xA2)) (xrg 0 6 (xrg 0 6 xA2 xA2) (xrg 0 6 xA2 xA2))) (fun sc => xgood sc (xS 38)) = true := by decide +kernel
theorem xop_40 : xchk5 (xA5) (fun sc => xgood sc (xS 40)) = true := by decide +kernel
theorem xop_41 : xchk5 (xA5) (fun sc => xgood sc (xS 41)) = true := by decide +kernel
theorem xop_42 : xchk5 (xA5) (fun sc => xgood sc (xS 42)) = true := by decide +kernel
theorem xop_43 : xchk5 (xrg 0 8 xA4 xA4) (fun sc => xgood sc (xS 43)) = true := by decide +kernel
theorem xop_44 : xchk5 (xA5) (fun sc => xgood sc (xS 44)) = true := by decide +kernel
end
section
/-! ===== narrower bounds, runs in pieces ===== -/
def xvle : XV → XV → Bool
  | .inl p, .inl q => decide (q.1 ≤ p.1 ∧ p.2 ≤ q.2)
  | .inr (.inl a), .inr (.inl b) => decide (b = none ∨ a = b)
  | .inr (.inr a), .inr (.inr b) => decide (a = b)
  | _, _ => false
def xlle : List XV → List XV → Bool
  | [], [] => true
  | x :: xs, y :: ys => xvle x y && xlle xs ys
  | _, _ => false
def xkle : XL → XL → Bool
  | [], [] => true
  | x :: xs, y :: ys => decide (x.1 = y.1) && (xvle x.2 y.2 && xkle xs ys)
  | _, _ => false
def xcle : XC → XC → Bool
  | .inl a, .inl b => decide (a.1 = b.1) && xlle a.2 b.2
  | .inr a, .inr b => decide (a.1 = b.1) && xlle a.2 b.2
  | _, _ => false
def xwle : XW → XW → Bool
  | [], [] => true
  | x :: xs, y :: ys => xcle x y && xwle xs ys
  | _, _ => false
/-- a configuration within another's bounds -/
def xsle (S S' : XS) : Bool := decide (S.1 = S'.1) && (xkle S.2.1 S'.2.1 && (xlle S.2.2.1 S'.2.2.1 && (xwle S.2.2.2.1 S'.2.2.2.1 && decide (S.2.2.2.2.1 ≤ S'.2.2.2.2.1 ∧ S.2.2.2.2.2 ≤ S'.2.2.2.2.2))))
theorem xvle_in {as ex : List Nat} {v : Value} : ∀ {x y : XV}, xvle x y = true → xv_in as ex x v → xv_in as ex y v
  | .inl p, .inl q, h, ⟨u, e, h1, h2⟩ => by
    have h := of_decide_eq_true (p := q.1 ≤ p.1 ∧ p.2 ≤ q.2) h
    exact ⟨u, e, by omega, by omega⟩
  | .inr (.inl a), .inr (.inl b), h, ⟨u, e, h1⟩ => by
    have h := of_decide_eq_true (p := b = none ∨ a = b) h
    refine ⟨u, e, fun z hz => ?_⟩
    rcases h with h | h
    · rw [h] at hz
      cases hz
    · exact h1 z (h.trans hz)
  | .inr (.inr a), .inr (.inr b), h, hv => by
    have h := of_decide_eq_true (p := a = b) h
    subst h
    exact hv
  | .inl _, .inr (.inl _), h, _ => by cases h
  | .inl _, .inr (.inr _), h, _ => by cases h
  | .inr (.inl _), .inl _, h, _ => by cases h
  | .inr (.inl _), .inr (.inr _), h, _ => by cases h
  | .inr (.inr _), .inl _, h, _ => by cases h
  | .inr (.inr _), .inr (.inl _), h, _ => by cases h
theorem xlle_in {as ex : List Nat} : ∀ {xs ys : List XV} {vs : List Value}, xlle xs ys = true → xl_in as ex xs vs → xl_in as ex ys vs
  | [], [], _, _, hv => hv
  | x :: xs, y :: ys, _, h, ⟨v, vs', e, h1, h2⟩ => by
    have h : (xvle x y && xlle xs ys) = true := h
    rw [Bool.and_eq_true] at h
    exact ⟨v, vs', e, xvle_in h.1 h1, xlle_in h.2 h2⟩
  | [], _ :: _, _, h, _ => by cases h
  | _ :: _, [], _, h, _ => by cases h
theorem xlle_at : ∀ {xs ys : List XV} {j : Nat} {y : XV}, xlle xs ys = true → ys[j]? = some y → ∃ x, xs[j]? = some x ∧ xvle x y = true
  | [], [], _, _, _, hj => by simp at hj
  | x :: xs, y :: ys, j, z, h, hj => by
    have h : (xvle x y && xlle xs ys) = true := h
    rw [Bool.and_eq_true] at h
    cases j with
    | zero =>
      rw [List.getElem?_cons_zero] at hj
      cases hj
      exact ⟨x, by rw [List.getElem?_cons_zero], h.1⟩
    | succ j =>
      rw [List.getElem?_cons_succ] at hj
      obtain ⟨u, h1, h2⟩ := xlle_at h.2 hj
      exact ⟨u, by rw [List.getElem?_cons_succ]; exact h1, h2⟩
  | [], _ :: _, _, _, h, _ => by cases h
  | _ :: _, [], _, _, h, _ => by cases h
theorem xlle_len : ∀ {xs ys : List XV}, xlle xs ys = true → xs.length = ys.length
  | [], [], _ => rfl
  | x :: xs, y :: ys, h => by
    have h : (xvle x y && xlle xs ys) = true := h
    rw [Bool.and_eq_true] at h
    simp [xlle_len h.2]
  | [], _ :: _, h => by cases h
  | _ :: _, [], h => by cases h
theorem xkle_in {as ex : List Nat} : ∀ {xs ys : XL} {vs : List (Nat × Value)}, xkle xs ys = true → xk_in as ex xs vs → xk_in as ex ys vs
  | [], [], _, _, hv => hv
  | x :: xs, y :: ys, _, h, ⟨v, vs', e, h1, h2⟩ => by
    have h : (decide (x.1 = y.1) && (xvle x.2 y.2 && xkle xs ys)) = true := h
    rw [Bool.and_eq_true, Bool.and_eq_true] at h
    have h0 := of_decide_eq_true h.1
    exact ⟨v, vs', by rw [← h0]; exact e, xvle_in h.2.1 h1, xkle_in h.2.2 h2⟩
  | [], _ :: _, _, h, _ => by cases h
  | _ :: _, [], _, h, _ => by cases h
theorem xcle_in {as ex : List Nat} {tA : Nat → ClassId} : ∀ {x y : XC} {v : va_E}, xcle x y = true → xc_in as ex tA x v → xc_in as ex tA y v
  | .inl a, .inl b, v, h, ⟨vs, e, h1⟩ => by
    have h : (decide (a.1 = b.1) && xlle a.2 b.2) = true := h
    rw [Bool.and_eq_true] at h
    have h0 := of_decide_eq_true h.1
    exact ⟨vs, by rw [← h0]; exact e, xlle_in h.2 h1⟩
  | .inr a, .inr b, v, h, ⟨x, e, h1, h2, h3⟩ => by
    have h : (decide (a.1 = b.1) && xlle a.2 b.2) = true := h
    rw [Bool.and_eq_true] at h
    have h0 := of_decide_eq_true h.1
    refine ⟨x, by rw [← h0]; exact e, h1.trans (xlle_len h.2), by rw [← h0]; exact h2, fun j y hy => ?_⟩
    obtain ⟨u, g1, g2⟩ := xlle_at h.2 hy
    exact xvle_in g2 (h3 j u g1)
  | .inl _, .inr _, _, h, _ => by cases h
  | .inr _, .inl _, _, h, _ => by cases h
theorem xwle_at : ∀ {xs ys : XW} {j : Nat} {y : XC}, xwle xs ys = true → ys[j]? = some y → ∃ x, xs[j]? = some x ∧ xcle x y = true
  | [], [], _, _, _, hj => by simp at hj
  | x :: xs, y :: ys, j, z, h, hj => by
    have h : (xcle x y && xwle xs ys) = true := h
    rw [Bool.and_eq_true] at h
    cases j with
    | zero =>
      rw [List.getElem?_cons_zero] at hj
      cases hj
      exact ⟨x, by rw [List.getElem?_cons_zero], h.1⟩
    | succ j =>
      rw [List.getElem?_cons_succ] at hj
      obtain ⟨u, h1, h2⟩ := xwle_at h.2 hj
      exact ⟨u, by rw [List.getElem?_cons_succ]; exact h1, h2⟩
  | [], _ :: _, _, _, h, _ => by cases h
  | _ :: _, [], _, _, h, _ => by cases h
theorem xwle_len : ∀ {xs ys : XW}, xwle xs ys = true → xs.length = ys.length
  | [], [], _ => rfl
  | x :: xs, y :: ys, h => by
    have h : (xcle x y && xwle xs ys) = true := h
    rw [Bool.and_eq_true] at h
    simp [xwle_len h.2]
  | [], _ :: _, h => by cases h
  | _ :: _, [], h => by cases h
theorem xwle_in {ex : List Nat} {tA : Nat → ClassId} {w w' : XW} {ws : va_W} (h : xwle w w' = true) (hw : xw_in ex tA w ws) : xw_in ex tA w' ws := by
  refine ⟨(xwle_len h).symm.trans hw.1, fun i c hc => ?_⟩
  obtain ⟨x, h1, h2⟩ := xwle_at h hc
  obtain ⟨a, e, h3, h4⟩ := hw.2 i x h1
  exact ⟨a, e, h3, xcle_in h2 h4⟩
theorem xsat_mono {p : Program} {l : Launch} {e : Env} {R : Room} {s : State} {m : MethodId} {args : Array Value} {below : List Frame} {meth : Method} {c : Code} {Q : State → Prop} {nL : Nat} {D : va_G} {cl : List vw_C} {tA : Nat → ClassId} {A : Nat → Prop} {as0 ex : List Nat} {S S' : XS} (h : xsle S S' = true) (hs : XSat p l e R s m args below meth c Q nL D cl tA A as0 ex S') : XSat p l e R s m args below meth c Q nL D cl tA A as0 ex S := by
  unfold xsle at h
  rw [Bool.and_eq_true, Bool.and_eq_true, Bool.and_eq_true, Bool.and_eq_true] at h
  obtain ⟨g1, g2, g3, g4, g5⟩ := h
  have g1 := of_decide_eq_true g1
  have g5 := of_decide_eq_true g5
  intro H locs ls vs lw ws ⟨h1, h2, h3, h4, h5, h6, h7, h8⟩
  refine W.widen g5.1 g5.2 ?_
  rw [g1]
  exact hs H locs ls vs lw ws ⟨xkle_in g2 h1, xlle_in g3 h2, xwle_in g4 h3, h4, h5, h6, h7, h8⟩
/-- a run in pieces: steps, and bounds made wider -/
def xroad (f : XS → Option XR) (S : XS) (q : Option XV × XW × Nat × Nat) : Prop := ∀ P : XR → Prop, (∀ S r, f S = some r → P r → P (.inl S)) → (∀ S S', xsle S S' = true → P (.inl S') → P (.inl S)) → P (.inr q) → P (.inl S)
theorem xroad.run {f : XS → Option XR} {fu : Nat} {S : XS} {q : Option XV × XW × Nat × Nat} (h : xrun f fu S = some (.inr q)) : xroad f S q := fun _ h1 _ h3 => xrun_ok h1 fu S _ h h3
theorem xroad.steps {f : XS → Option XR} {n : Nat} {S S' : XS} {q : Option XV × XW × Nat × Nat} (h : xsteps f n S = some S') (k : xroad f S' q) : xroad f S q := fun P h1 h2 h3 => xsteps_ok h1 n S S' h (k P h1 h2 h3)
theorem xroad.wide {f : XS → Option XR} {S S' : XS} {q : Option XV × XW × Nat × Nat} (h : xsle S S' = true) (k : xroad f S' q) : xroad f S q := fun P h1 h2 h3 => h2 S S' h (k P h1 h2 h3)
set_option maxHeartbeats 4000000 in
/-- a method's contract out of a run in pieces -/
theorem xmet_of {l : Launch} {D : va_G} {cl : List vw_C} {tys : List (ClassId × FieldType)} {tA : Nat → ClassId} {ex : List Nat} {exc : List (List XV)} {Ts : List Cond} {SV : List (String × String × String × Nat)} {NW : List (String × Nat × MethodName × String)} {NF : List (String × Nat × String × String × String × String)} {MT : Nat → Option XM} {FT : Nat → Nat → Option FieldType} {FD : Nat → Option (List XV)} {TY : Nat → Option FieldType} {TC : Nat → Option Nat} {cf : XF} (hG : ∀ w ∈ Ts, (w.onTables && w.keeps) = true ∨ ∃ ty, w = .arrayClass ty) (hT : xty tys tA) (hTY : ∀ t C, 3 ≤ t → t < 7 → TY t = some (.object C) → tys[t]? = some (tA t, .object C)) (hTC : ∀ t b, TC t = some b → 3 ≤ t ∧ t < 7 ∧ ∃ o : vw_C, cl[b]? = some o ∧ tys[t]? = some (tA t, .object o.1))
    (hok : ∀ j N, MT j = some N → plainName (xm_y N).cls = true ∧ ∀ pc q, xfetch (xm_t N) pc = some q → xdec (xm_c N) pc q.1 ∧ xaux cl Ts MT FT FD TY SV NW NF N pc q.2.1 q.2.2.1 q.2.2.2 q.1)
    (hcf : ∀ (j : Nat) (N : XM) (as : List XV) (w : XW) (ro : Option XV) (w' : XW), MT j = some N → cf j as w = some (ro, w') → XMet l D cl tys tA ex exc SV NW NF Ts N as w ro w')
    {j : Nat} {N : XM} (hN : MT j = some N) {as : List XV} {w : XW} {ro : Option XV} {w2 w' : XW} {k2 n2 : Nat} (hc : (as.map xcat).sum ≤ xm_l N) (hcap : k2 ≤ xm_k N ∧ n2 ≤ xm_n N) (hw2 : xwle w2 w' = true) (hrun : xroad (xstep cf MT FT FD TY TC exc N) (0, xk_args 0 as, [], w, 0, 0) (ro, w2, k2, n2)) : XMet l D cl tys tA ex exc SV NW NF Ts N as w ro w' := by
  intro vals ws sz hvals hws
  refine Met.ofW (cc := xm_c N) (maxL := xm_l N) (ret := xm_r N) (hok j N hN).1 rfl ?_
  intro p e s m args below meth c s₁ B hml hv
  obtain ⟨rfl, hsz, hP, hD0, hE⟩ := hv
  have hx := B.exec
  have hb := B.bytes
  have hr := B.returns
  have hts0 := atoms_spec (ws := xws Ts N) B.pre
  have hts : ∀ w ∈ Ts, w.before vals.toArray s = true := fun w h => hts0 w (List.mem_cons_of_mem _ h)
  have hown : s.vm.findClass (xm_y N).cls = some m.cls := findClass_of_methodNamed B.named
  have hname : (xm_y N).name = "<init>" → meth.name = "<init>" := fun h => (name_of_methodNamed B.named B.method).1.trans h
  have hlocks := B.notSynchronized
  subst hsz
  have hD := hD0.self (sz := s.heap.size)
  have hA : ∀ q : Nat, s.heap.size ≤ q → va_A ws s.heap.size q := fun q h => Or.inr h
  have hl := lv_entry vals (n := xm_l N) (by rw [x_lgsl, hvals.cats]; exact hc)
  rw [lg_entry_eq]
  have key := hrun (XRs p l e (headSpec (xws Ts N) (xrm N)).room s m vals.toArray below meth c (MQ below (XQ D cl tA ex ro w' ws s.heap.size) vals.toArray s (xm_k N) (xm_n N) (va_A ws s.heap.size)) (xm_c N) (xm_l N) D cl tA (va_A ws s.heap.size) (xad ws) ex (xm_r N)) (fun S r hS hR => by
    unfold xstep at hS
    cases hf : xfetch (xm_t N) S.1 with
    | none => rw [hf] at hS; cases hS
    | some q =>
      rw [hf] at hS
      obtain ⟨od, oa⟩ := (hok j N hN).2 S.1 q hf
      exact xins_ok hx hb hml hown hname hts hG hE hA rfl rfl rfl rfl hT hTY hTC hcf od oa hS hR) (fun S S' h hS => xsat_mono h hS) ?_
  · exact key s.heap [] _ [] (lv_args 0 vals) ws ⟨xk_in.args 0 hvals, rfl, hws, hP, hD, va_S.rf, hl, [], by simp⟩
  · intro pc i H locs ls rv ws' hd hrt hrk ho hz hw hP hD hS htl
    refine W.widen hcap.1 hcap.2 ?_
    have fin : ∀ (o : Option Value), o = rv → ∀ t : State, t.heap = H → s.WarmedH t.vm → XQ D cl tA ex ro w' ws s.heap.size vals.toArray s (.returned o) t := fun o e0 t ht _ => ⟨⟨rv, ws', by rw [e0], ho, by rw [ht]; exact hP, hD, xwle_in hw2 hw, htl⟩, hS.F ht⟩
    cases i with
    | ireturn =>
      obtain ⟨x, rfl⟩ := hrk
      rcases hrt with h0 | h0
      · exact W.iret (v := x) hx hb (hr.trans h0) (fin _ rfl) hS.2.2 hd
      · exact W.zret (v := x) (ty := .boolean) hx hb (hr.trans h0) (by rcases hz (by rw [h0]; rfl) x rfl with rfl | rfl <;> decide +kernel) (fin _ rfl) hS.2.2 hd
    | lreturn =>
      obtain ⟨x, rfl⟩ := hrk
      exact W.lret (v := x) hx hb (hr.trans hrt) (fin _ rfl) hS.2.2 hd
    | areturn =>
      obtain ⟨C, hrt⟩ := hrt
      rcases hrk with rfl | ⟨x, rfl⟩
      · exact W.aret (v := .null) hx hb (hr.trans hrt) (Or.inl ⟨C, rfl⟩) (Or.inl rfl) (fin _ rfl) hS.2.2 hd
      · exact W.aret (v := .ref x) hx hb (hr.trans hrt) (Or.inl ⟨C, rfl⟩) (Or.inr ⟨x, rfl⟩) (fin _ rfl) hS.2.2 hd
    | return_ =>
      have hrk : rv = none := hrk
      subst hrk
      exact W.vret hx hb (hr.trans hrt) (fin _ rfl) hS.2.2 hd
    | _ => exact absurd hrk id
/-- of narrower arguments and a narrower world -/
theorem xmet_mono {l : Launch} {D : va_G} {cl : List vw_C} {tys : List (ClassId × FieldType)} {tA : Nat → ClassId} {ex : List Nat} {exc : List (List XV)} {Ts : List Cond} {SV : List (String × String × String × Nat)} {NW : List (String × Nat × MethodName × String)} {NF : List (String × Nat × String × String × String × String)} {N : XM} {as as' : List XV} {w w' : XW} {ro : Option XV} {w2 : XW} (ha : xlle as as' = true) (hw : xwle w w' = true) (h : XMet l D cl tys tA ex exc SV NW NF Ts N as' w' ro w2) : XMet l D cl tys tA ex exc SV NW NF Ts N as w ro w2 :=
  fun vals ws sz h1 h2 => h vals ws sz (xlle_in ha h1) (xwle_in hw h2)
-- a check put together out of its pieces
theorem xcov_rg {β : Type} (g f : β) (a : Int) (n : Nat) : ∀ (k : Nat), k ≤ n → xcov (a + (k : Int)) (((List.range n).drop k).map (fun (i : Nat) => ((a + (i : Int), a + (i : Int)), g)) ++ [((a + (n : Int), 2147483647), f)]) = true := by
  intro k hk
  obtain ⟨d, hd⟩ : ∃ d, n = k + d := ⟨n - k, by omega⟩
  induction d generalizing k with
  | zero =>
    have : k = n := by omega
    subst this
    rw [List.drop_eq_nil_of_le (by simp)]
    show (decide (a + (k : Int) ≤ a + (k : Int)) && decide ((2147483647 : Int) < 2147483647 + 1)) = true
    simp
  | succ d ih =>
    have hlt : k < n := by omega
    have e0 : (List.range n).drop k = k :: (List.range n).drop (k + 1) := by
      rw [List.drop_eq_getElem_cons (by simpa using hlt)]
      simp
    rw [e0]
    show (decide (a + (k : Int) ≤ a + (k : Int)) && xcov (a + (k : Int) + 1) _) = true
    rw [Bool.and_eq_true]
    refine ⟨by simp, ?_⟩
    have := ih (k + 1) (by omega) (by omega)
    rw [show a + (k : Int) + 1 = a + ((k + 1 : Nat) : Int) by omega]
    exact this
theorem xchk_rg {β : Type} {F : Int × Int → β → Bool} {f g : β} {a : Int} {n : Nat} (h0 : F (-2147483648, a - 1) f = true) (hi : ∀ i : Nat, i < n → F (a + (i : Int), a + (i : Int)) g = true) (h1 : F (a + (n : Int), 2147483647) f = true) : xchk (xrg a n f g) F = true := by
  unfold xchk
  rw [Bool.and_eq_true]
  refine ⟨?_, List.all_eq_true.mpr (fun q hq => ?_)⟩
  · show (decide ((-2147483648 : Int) ≤ -2147483648) && xcov (a - 1 + 1) _) = true
    rw [Bool.and_eq_true]
    refine ⟨by simp, ?_⟩
    have := xcov_rg g f a n 0 (Nat.zero_le n)
    rw [List.drop_zero] at this
    rw [show a - 1 + 1 = a + ((0 : Nat) : Int) by omega]
    exact this
  · unfold xrg at hq
    rcases List.mem_cons.mp hq with rfl | hq
    · exact h0
    · rcases List.mem_append.mp hq with hq | hq
      · obtain ⟨i, hi2, rfl⟩ := List.mem_map.mp hq
        exact hi i (List.mem_range.mp hi2)
      · rw [List.mem_singleton.mp hq]
        exact h1
end
section
/-! ===== runs ===== -/
theorem xop_18 : xchk5 (xA5) (fun sc => xgood sc (xS 18)) = true := by decide +kernel
end
section
/-! ===== no call at all, and calls that none is ===== -/
theorem xlen_0 : xgood (xsc 0) xS0 = true := by decide +kernel
theorem xlen_1 : xgood (xsc 1) xS0 = true := by decide +kernel
theorem xlen_2 : xgood (xsc 2) xS0 = true := by decide +kernel
theorem xlen_3 : xgood (xsc 3) xS0 = true := by decide +kernel
theorem xlen_4 : xgood (xsc 4) xS0 = true := by decide +kernel
theorem xlen_5 : xgood (xsc 5) xS0 = true := by decide +kernel
theorem xop_rest : ∀ i, i < 17 → xchk5 xA5 (fun sc => xgood sc (xS (47 + i))) = true := fun i hi => List.all_eq_true.mp (show (List.range 17).all (fun i => xchk5 xA5 (fun sc => xgood sc (xS (47 + i)))) = true by decide +kernel) i (List.mem_range.mpr hi)
def xf5 (op : Nat) (q1 q2 : Int × Int) (l : XB3) : Bool := xchk l (fun q3 l => xchk l (fun q4 l => xchk l (fun q5 _ => xgood [.inl xtop, .inl q1, .inl q2, .inl q3, .inl q4, .inl q5] (xS op))))
theorem x_pieces {F : Nat → Bool} {a b : Nat} (h : (List.range b).all (fun i => F (a + i)) = true) {j : Nat} (h1 : a ≤ j) (h2 : j < a + b) : F j = true := by
  have h3 := List.all_eq_true.mp h (j - a) (List.mem_range.mpr (by omega))
  rw [show a + (j - a) = j by omega] at h3
  exact h3
end
section
/-! ===== a call of the law whose callee has its contract by another road ===== -/
section XLW
variable {p : Program} {l : Launch} {e : Env} {s : State} {m : MethodId} {below : List Frame} {meth : Method} {c : Code} {b L : Nat} {xs : Nat → Int32} {D : va_G} {tA : Nat → ClassId} {ex : List Nat} {sc : List XV}
set_option maxHeartbeats 4000000 in
theorem xlaw_call (C0 : lw_At p s m meth c b L xs) (hE : XEnv D vwCl (tysX tA) ex (xSTX ++ [sc]) xSV xNW xNF (fun q : Nat => s.heap.size ≤ q) s) {pc idx a d : Nat} {z : Int} {lv : XL} {st : List XV} {w : XW} {k n : Nat} {N : XM} {ro : Option XV} {w' : XW} {S' : XS} (hf : xfetch (xm_t xmL) pc = some (.invokevirtual idx, a, d, z)) (hN : xMT a = some N) (hM : XMet l D vwCl (tysX tA) tA ex (xSTX ++ [sc]) xSV xNW xNF xTs N (st.take d).reverse w ro w') (hc : xh_call (fun _ _ _ => some (ro, w')) xmL (some N) a d true pc lv st w k n = some (.inl S')) (hS : XLS p l e s m b below meth c D tA ex (.inl S')) : XLS p l e s m b below meth c D tA ex (.inl (pc, lv, st, w, k, n)) := by
  obtain ⟨hx, hb, hr, hml, hown, hts, hX, hbl, hlocks, hgv⟩ := C0
  have hT : ∀ w ∈ xTs, w.before #[Value.ref b] s = true := fun w hw => hts w (List.mem_filter.mp hw).1
  obtain ⟨od, oa⟩ := xokb_ok (cl := vwCl) (MT := xMT) (FT := xFT) (FD := xFD) (TY := xTY) (SV := xSV) (NW := xNW) (NF := xNF) (M := xmL) rfl ⟨rfl, rfl, rfl⟩ x_arrs x_oi xFL_ok xMV_ok xMS_ok xMI_ok xOI_ok xCL_ok xAL_ok xKI_ok xKL_ok xGS_ok (xgL_ok hf)
  obtain ⟨cf, hcf0, hcf1⟩ : ∃ cf : XF, cf a (st.take d).reverse w = some (ro, w') ∧ ∀ (j : Nat) (as : List XV) (w0 : XW) (q : Option XV × XW), cf j as w0 = some q → j = a ∧ as = (st.take d).reverse ∧ w0 = w ∧ q = (ro, w') := by
    refine ⟨fun j as w0 => @ite (Option (Option XV × XW)) (j = a ∧ as = (st.take d).reverse ∧ w0 = w) (Classical.propDecidable _) (some (ro, w')) none, if_pos ⟨rfl, rfl, rfl⟩, fun j as w0 q h => ?_⟩
    by_cases hq : j = a ∧ as = (st.take d).reverse ∧ w0 = w
    · have h : @ite (Option (Option XV × XW)) (j = a ∧ as = (st.take d).reverse ∧ w0 = w) (Classical.propDecidable _) (some (ro, w')) none = some q := h
      rw [if_pos hq] at h
      exact ⟨hq.1, hq.2.1, hq.2.2, (Option.some.inj h).symm⟩
    · have h : @ite (Option (Option XV × XW)) (j = a ∧ as = (st.take d).reverse ∧ w0 = w) (Classical.propDecidable _) (some (ro, w')) none = some q := h
      rw [if_neg hq] at h
      cases h
  have hh : xh_call cf xmL (xMT a) a d true pc lv st w k n = some (.inl S') := by
    rw [hN]
    unfold xh_call at hc ⊢
    dsimp only at hc ⊢
    rw [hcf0]
    exact hc
  exact xins_ok (cf := cf) (M := xmL) (R := room_1) hx hb hml hown (fun h => absurd h (by decide +kernel)) hT x_good hE (fun _ h => h) rfl rfl rfl rfl (x_tysX tA) (x_tysY tA) (x_tysC tA) (fun j' N' as w0 ro' w2 hN' h => by
    obtain ⟨rfl, rfl, rfl, e1⟩ := hcf1 j' as w0 _ h
    cases e1
    have e0 : N' = N := Option.some.inj (hN'.symm.trans hN)
    subst e0
    exact hM) od oa hh hS
end XLW
end
section
/-! ===== digest of both, in pieces ===== -/
def xscA : List XV := [.inl xtop, .inl (-2147483648, 2147483647), .inl (-2147483648, 2147483647), .inl (-2147483648, 2147483647), .inl (-2147483648, 2147483647), .inl (-2147483648, 2147483647)]
def xd8 : DecidableEq XR := by
  letI := xd6
  letI := xd5
  letI := xd1
  exact inferInstance
def xd9 : DecidableEq (Option XR) := by
  letI := xd8
  exact inferInstance
def xdc_S0 : XS := (0, [(0, .inr (.inr (1, 0)))], [], xw0, 0, 0)
def xdc_S1 : XS := (45, [(4, xi 2), (1, .inr (.inl (some (-2449930684775800937)))), (3, xi 6), (0, .inr (.inr (1, 0)))], [xi 4, xi 2], xw0, 0, 0)
def xdc_S2 : XS := (66, [(1, .inr (.inl (some 4728728991145003145))), (4, xi 0), (3, xi 14), (0, .inr (.inr (1, 0)))], [], xw0, 0, 0)
def xdc_S3 : XS := (75, [(3, xi 22), (4, xi 5), (1, .inr (.inl (some 8718994131557460823))), (0, .inr (.inr (1, 0)))], [], xw0, 0, 0)
def xdc_S4 : XS := (42, [(4, xi 4), (1, .inr (.inl (some 2166001431569620896))), (3, xi 29), (0, .inr (.inr (1, 0)))], [], xw0, 0, 0)
def xdc_S5 : XS := (64, [(4, xi 2), (1, .inr (.inl (some 791523104550290113))), (3, xi 37), (0, .inr (.inr (1, 0)))], [.inr (.inl (some 1)), .inr (.inl (some 6090472167349441887))], xw0, 0, 0)
def xdc_S6 : XS := (57, [(4, xi 1), (1, .inr (.inl (some 8302783815848430111))), (3, xi 45), (0, .inr (.inr (1, 0)))], [.inr (.inr (1, 3)), .inr (.inl (some (-868118740632389183)))], xw0, 0, 0)
def xdc_S7 : XS := (51, [(4, xi 0), (3, xi 53), (1, .inr (.inl (some 9121079754155797761))), (0, .inr (.inr (1, 0)))], [.inr (.inl (some 31))], xw0, 0, 0)
def xdc_S8 : XS := (60, [(4, xi 4), (1, .inr (.inl (some 6005892103203238582))), (3, xi 60), (0, .inr (.inr (1, 0)))], [xi 4, xi 60, .inr (.inr (1, 3)), .inr (.inl (some 1715214462204879882))], xw0, 0, 0)
theorem xdc_p0 : xsteps (xstep (xcf 20 xscA) xMT xFT xFD xTY xTC (xSTX ++ [xscA]) xm152) 700 xdc_S0 = some xdc_S1 := @of_decide_eq_true _ (xd7 _ _) (show @decide _ (xd7 (xsteps (xstep (xcf 20 xscA) xMT xFT xFD xTY xTC (xSTX ++ [xscA]) xm152) 700 xdc_S0) (some xdc_S1)) = true by decide +kernel)
theorem xdc_p1 : xsteps (xstep (xcf 20 xscA) xMT xFT xFD xTY xTC (xSTX ++ [xscA]) xm152) 700 xdc_S1 = some xdc_S2 := @of_decide_eq_true _ (xd7 _ _) (show @decide _ (xd7 (xsteps (xstep (xcf 20 xscA) xMT xFT xFD xTY xTC (xSTX ++ [xscA]) xm152) 700 xdc_S1) (some xdc_S2)) = true by decide +kernel)
theorem xdc_p2 : xsteps (xstep (xcf 20 xscA) xMT xFT xFD xTY xTC (xSTX ++ [xscA]) xm152) 700 xdc_S2 = some xdc_S3 := @of_decide_eq_true _ (xd7 _ _) (show @decide _ (xd7 (xsteps (xstep (xcf 20 xscA) xMT xFT xFD xTY xTC (xSTX ++ [xscA]) xm152) 700 xdc_S2) (some xdc_S3)) = true by decide +kernel)
theorem xdc_p3 : xsteps (xstep (xcf 20 xscA) xMT xFT xFD xTY xTC (xSTX ++ [xscA]) xm152) 700 xdc_S3 = some xdc_S4 := @of_decide_eq_true _ (xd7 _ _) (show @decide _ (xd7 (xsteps (xstep (xcf 20 xscA) xMT xFT xFD xTY xTC (xSTX ++ [xscA]) xm152) 700 xdc_S3) (some xdc_S4)) = true by decide +kernel)
theorem xdc_p4 : xsteps (xstep (xcf 20 xscA) xMT xFT xFD xTY xTC (xSTX ++ [xscA]) xm152) 700 xdc_S4 = some xdc_S5 := @of_decide_eq_true _ (xd7 _ _) (show @decide _ (xd7 (xsteps (xstep (xcf 20 xscA) xMT xFT xFD xTY xTC (xSTX ++ [xscA]) xm152) 700 xdc_S4) (some xdc_S5)) = true by decide +kernel)
theorem xdc_p5 : xsteps (xstep (xcf 20 xscA) xMT xFT xFD xTY xTC (xSTX ++ [xscA]) xm152) 700 xdc_S5 = some xdc_S6 := @of_decide_eq_true _ (xd7 _ _) (show @decide _ (xd7 (xsteps (xstep (xcf 20 xscA) xMT xFT xFD xTY xTC (xSTX ++ [xscA]) xm152) 700 xdc_S5) (some xdc_S6)) = true by decide +kernel)
theorem xdc_p6 : xsteps (xstep (xcf 20 xscA) xMT xFT xFD xTY xTC (xSTX ++ [xscA]) xm152) 700 xdc_S6 = some xdc_S7 := @of_decide_eq_true _ (xd7 _ _) (show @decide _ (xd7 (xsteps (xstep (xcf 20 xscA) xMT xFT xFD xTY xTC (xSTX ++ [xscA]) xm152) 700 xdc_S6) (some xdc_S7)) = true by decide +kernel)
theorem xdc_p7 : xsteps (xstep (xcf 20 xscA) xMT xFT xFD xTY xTC (xSTX ++ [xscA]) xm152) 700 xdc_S7 = some xdc_S8 := @of_decide_eq_true _ (xd7 _ _) (show @decide _ (xd7 (xsteps (xstep (xcf 20 xscA) xMT xFT xFD xTY xTC (xSTX ++ [xscA]) xm152) 700 xdc_S7) (some xdc_S8)) = true by decide +kernel)
def xdc_w : XW := xw0
theorem xdc_e : xrun (xstep (xcf 20 xscA) xMT xFT xFD xTY xTC (xSTX ++ [xscA]) xm152) 20 xdc_S8 = some (.inr ((some (.inr (.inl (some 2127358785026472617)))), xdc_w, 0, 0)) := @of_decide_eq_true _ (xd9 _ _) (show @decide _ (xd9 (xrun (xstep (xcf 20 xscA) xMT xFT xFD xTY xTC (xSTX ++ [xscA]) xm152) 20 xdc_S8) (some (.inr ((some (.inr (.inl (some 2127358785026472617)))), xdc_w, 0, 0)))) = true by decide +kernel)
theorem xdc_road : xroad (xstep (xcf 20 xscA) xMT xFT xFD xTY xTC (xSTX ++ [xscA]) xm152) xdc_S0 ((some (.inr (.inl (some 2127358785026472617)))), xdc_w, 0, 0) := xroad.steps xdc_p0 (xroad.steps xdc_p1 (xroad.steps xdc_p2 (xroad.steps xdc_p3 (xroad.steps xdc_p4 (xroad.steps xdc_p5 (xroad.steps xdc_p6 (xroad.steps xdc_p7 (xroad.run xdc_e))))))))
def xdm_S0 : XS := (0, [(0, .inr (.inr (1, 57)))], [], xw0, 0, 0)
def xdm_S1 : XS := (42, [(2, xi 3), (1, xi 8), (0, .inr (.inr (1, 57)))], [xi 3], (xw0.set 57 (.inl (10, [xi 0, .inr (.inr (1, 58)), xi 0, .inr (.inl (some 0)), .inr (.inl (some 0)), .inr (.inl (some 1)), xi 0, .inr (.inr (1, 59)), .inr (.inr (1, 60)), .inr (.inr (1, 61)), .inr (.inr (1, 62)), .inr (.inr (1, 63)), .inr (.inr (1, 64)), .inr (.inr (1, 65)), .inr (.inr (1, 66)), .inr (.inr (1, 67)), .inr (.inr (1, 68)), xi 0, xi 1, .inr (.inr (1, 69)), .inr (.inr (1, 70)), .inr (.inr (1, 71)), .inr (.inr (1, 72)), .inr (.inr (1, 73)), .inr (.inr (1, 74)), .inr (.inr (1, 75)), .inr (.inr (1, 76)), .inr (.inr (1, 77)), .inr (.inr (1, 78)), .inr (.inr (1, 79)), xi 0, .inr (.inr (1, 80)), .inr (.inr (1, 81)), .inr (.inr (1, 82)), .inr (.inr (1, 83)), .inr (.inr (1, 84)), xi 0, .inr (.inr (1, 85)), .inr (.inr (1, 86)), .inr (.inr (1, 87)), .inr (.inr (1, 88)), .inr (.inr (1, 89)), .inr (.inr (1, 90)), .inr (.inr (1, 91)), .inr (.inr (1, 92)), .inr (.inr (1, 93)), .inr (.inr (1, 94)), .inr (.inr (1, 95)), .inr (.inr (1, 96)), .inr (.inr (1, 97)), .inr (.inl (some 5931453354831567114))]))), 0, 0)
def xdm_S2 : XS := (42, [(2, xi 3), (1, xi 18), (0, .inr (.inr (1, 57)))], [xi 3], (xw0.set 57 (.inl (10, [xi 0, .inr (.inr (1, 58)), xi 0, .inr (.inl (some 0)), .inr (.inl (some 0)), .inr (.inl (some 1)), xi 0, .inr (.inr (1, 59)), .inr (.inr (1, 60)), .inr (.inr (1, 61)), .inr (.inr (1, 62)), .inr (.inr (1, 63)), .inr (.inr (1, 64)), .inr (.inr (1, 65)), .inr (.inr (1, 66)), .inr (.inr (1, 67)), .inr (.inr (1, 68)), xi 0, xi 1, .inr (.inr (1, 69)), .inr (.inr (1, 70)), .inr (.inr (1, 71)), .inr (.inr (1, 72)), .inr (.inr (1, 73)), .inr (.inr (1, 74)), .inr (.inr (1, 75)), .inr (.inr (1, 76)), .inr (.inr (1, 77)), .inr (.inr (1, 78)), .inr (.inr (1, 79)), xi 0, .inr (.inr (1, 80)), .inr (.inr (1, 81)), .inr (.inr (1, 82)), .inr (.inr (1, 83)), .inr (.inr (1, 84)), xi 0, .inr (.inr (1, 85)), .inr (.inr (1, 86)), .inr (.inr (1, 87)), .inr (.inr (1, 88)), .inr (.inr (1, 89)), .inr (.inr (1, 90)), .inr (.inr (1, 91)), .inr (.inr (1, 92)), .inr (.inr (1, 93)), .inr (.inr (1, 94)), .inr (.inr (1, 95)), .inr (.inr (1, 96)), .inr (.inr (1, 97)), .inr (.inl (some 367019465397626314))]))), 0, 0)
def xdm_S3 : XS := (42, [(2, xi 3), (1, xi 28), (0, .inr (.inr (1, 57)))], [xi 3], (xw0.set 57 (.inl (10, [xi 0, .inr (.inr (1, 58)), xi 0, .inr (.inl (some 0)), .inr (.inl (some 0)), .inr (.inl (some 1)), xi 0, .inr (.inr (1, 59)), .inr (.inr (1, 60)), .inr (.inr (1, 61)), .inr (.inr (1, 62)), .inr (.inr (1, 63)), .inr (.inr (1, 64)), .inr (.inr (1, 65)), .inr (.inr (1, 66)), .inr (.inr (1, 67)), .inr (.inr (1, 68)), xi 0, xi 1, .inr (.inr (1, 69)), .inr (.inr (1, 70)), .inr (.inr (1, 71)), .inr (.inr (1, 72)), .inr (.inr (1, 73)), .inr (.inr (1, 74)), .inr (.inr (1, 75)), .inr (.inr (1, 76)), .inr (.inr (1, 77)), .inr (.inr (1, 78)), .inr (.inr (1, 79)), xi 0, .inr (.inr (1, 80)), .inr (.inr (1, 81)), .inr (.inr (1, 82)), .inr (.inr (1, 83)), .inr (.inr (1, 84)), xi 0, .inr (.inr (1, 85)), .inr (.inr (1, 86)), .inr (.inr (1, 87)), .inr (.inr (1, 88)), .inr (.inr (1, 89)), .inr (.inr (1, 90)), .inr (.inr (1, 91)), .inr (.inr (1, 92)), .inr (.inr (1, 93)), .inr (.inr (1, 94)), .inr (.inr (1, 95)), .inr (.inr (1, 96)), .inr (.inr (1, 97)), .inr (.inl (some (-3818776842483121526)))]))), 0, 0)
def xdm_S4 : XS := (42, [(2, xi 3), (1, xi 38), (0, .inr (.inr (1, 57)))], [xi 3], (xw0.set 57 (.inl (10, [xi 0, .inr (.inr (1, 58)), xi 0, .inr (.inl (some 0)), .inr (.inl (some 0)), .inr (.inl (some 1)), xi 0, .inr (.inr (1, 59)), .inr (.inr (1, 60)), .inr (.inr (1, 61)), .inr (.inr (1, 62)), .inr (.inr (1, 63)), .inr (.inr (1, 64)), .inr (.inr (1, 65)), .inr (.inr (1, 66)), .inr (.inr (1, 67)), .inr (.inr (1, 68)), xi 0, xi 1, .inr (.inr (1, 69)), .inr (.inr (1, 70)), .inr (.inr (1, 71)), .inr (.inr (1, 72)), .inr (.inr (1, 73)), .inr (.inr (1, 74)), .inr (.inr (1, 75)), .inr (.inr (1, 76)), .inr (.inr (1, 77)), .inr (.inr (1, 78)), .inr (.inr (1, 79)), xi 0, .inr (.inr (1, 80)), .inr (.inr (1, 81)), .inr (.inr (1, 82)), .inr (.inr (1, 83)), .inr (.inr (1, 84)), xi 0, .inr (.inr (1, 85)), .inr (.inr (1, 86)), .inr (.inr (1, 87)), .inr (.inr (1, 88)), .inr (.inr (1, 89)), .inr (.inr (1, 90)), .inr (.inr (1, 91)), .inr (.inr (1, 92)), .inr (.inr (1, 93)), .inr (.inr (1, 94)), .inr (.inr (1, 95)), .inr (.inr (1, 96)), .inr (.inr (1, 97)), .inr (.inl (some 2888704108778614602))]))), 0, 0)
def xdm_S5 : XS := (42, [(2, xi 3), (1, xi 48), (0, .inr (.inr (1, 57)))], [xi 3], (xw0.set 57 (.inl (10, [xi 0, .inr (.inr (1, 58)), xi 0, .inr (.inl (some 0)), .inr (.inl (some 0)), .inr (.inl (some 1)), xi 0, .inr (.inr (1, 59)), .inr (.inr (1, 60)), .inr (.inr (1, 61)), .inr (.inr (1, 62)), .inr (.inr (1, 63)), .inr (.inr (1, 64)), .inr (.inr (1, 65)), .inr (.inr (1, 66)), .inr (.inr (1, 67)), .inr (.inr (1, 68)), xi 0, xi 1, .inr (.inr (1, 69)), .inr (.inr (1, 70)), .inr (.inr (1, 71)), .inr (.inr (1, 72)), .inr (.inr (1, 73)), .inr (.inr (1, 74)), .inr (.inr (1, 75)), .inr (.inr (1, 76)), .inr (.inr (1, 77)), .inr (.inr (1, 78)), .inr (.inr (1, 79)), xi 0, .inr (.inr (1, 80)), .inr (.inr (1, 81)), .inr (.inr (1, 82)), .inr (.inr (1, 83)), .inr (.inr (1, 84)), xi 0, .inr (.inr (1, 85)), .inr (.inr (1, 86)), .inr (.inr (1, 87)), .inr (.inr (1, 88)), .inr (.inr (1, 89)), .inr (.inr (1, 90)), .inr (.inr (1, 91)), .inr (.inr (1, 92)), .inr (.inr (1, 93)), .inr (.inr (1, 94)), .inr (.inr (1, 95)), .inr (.inr (1, 96)), .inr (.inr (1, 97)), .inr (.inl (some (-398982226341991414)))]))), 0, 0)
def xdm_S6 : XS := (42, [(2, xi 3), (1, xi 58), (0, .inr (.inr (1, 57)))], [xi 3], (xw0.set 57 (.inl (10, [xi 0, .inr (.inr (1, 58)), xi 0, .inr (.inl (some 0)), .inr (.inl (some 0)), .inr (.inl (some 1)), xi 0, .inr (.inr (1, 59)), .inr (.inr (1, 60)), .inr (.inr (1, 61)), .inr (.inr (1, 62)), .inr (.inr (1, 63)), .inr (.inr (1, 64)), .inr (.inr (1, 65)), .inr (.inr (1, 66)), .inr (.inr (1, 67)), .inr (.inr (1, 68)), xi 0, xi 1, .inr (.inr (1, 69)), .inr (.inr (1, 70)), .inr (.inr (1, 71)), .inr (.inr (1, 72)), .inr (.inr (1, 73)), .inr (.inr (1, 74)), .inr (.inr (1, 75)), .inr (.inr (1, 76)), .inr (.inr (1, 77)), .inr (.inr (1, 78)), .inr (.inr (1, 79)), xi 0, .inr (.inr (1, 80)), .inr (.inr (1, 81)), .inr (.inr (1, 82)), .inr (.inr (1, 83)), .inr (.inr (1, 84)), xi 0, .inr (.inr (1, 85)), .inr (.inr (1, 86)), .inr (.inr (1, 87)), .inr (.inr (1, 88)), .inr (.inr (1, 89)), .inr (.inr (1, 90)), .inr (.inr (1, 91)), .inr (.inr (1, 92)), .inr (.inr (1, 93)), .inr (.inr (1, 94)), .inr (.inr (1, 95)), .inr (.inr (1, 96)), .inr (.inr (1, 97)), .inr (.inl (some 41138660213209290))]))), 0, 0)
theorem xdm_p0 : xsteps (xstep (xcf 20 xscA) xMT xFT xFD xTY xTC (xSTX ++ [xscA]) xm251) 700 xdm_S0 = some xdm_S1 := @of_decide_eq_true _ (xd7 _ _) (show @decide _ (xd7 (xsteps (xstep (xcf 20 xscA) xMT xFT xFD xTY xTC (xSTX ++ [xscA]) xm251) 700 xdm_S0) (some xdm_S1)) = true by decide +kernel)
theorem xdm_p1 : xsteps (xstep (xcf 20 xscA) xMT xFT xFD xTY xTC (xSTX ++ [xscA]) xm251) 700 xdm_S1 = some xdm_S2 := @of_decide_eq_true _ (xd7 _ _) (show @decide _ (xd7 (xsteps (xstep (xcf 20 xscA) xMT xFT xFD xTY xTC (xSTX ++ [xscA]) xm251) 700 xdm_S1) (some xdm_S2)) = true by decide +kernel)
theorem xdm_p2 : xsteps (xstep (xcf 20 xscA) xMT xFT xFD xTY xTC (xSTX ++ [xscA]) xm251) 700 xdm_S2 = some xdm_S3 := @of_decide_eq_true _ (xd7 _ _) (show @decide _ (xd7 (xsteps (xstep (xcf 20 xscA) xMT xFT xFD xTY xTC (xSTX ++ [xscA]) xm251) 700 xdm_S2) (some xdm_S3)) = true by decide +kernel)
theorem xdm_p3 : xsteps (xstep (xcf 20 xscA) xMT xFT xFD xTY xTC (xSTX ++ [xscA]) xm251) 700 xdm_S3 = some xdm_S4 := @of_decide_eq_true _ (xd7 _ _) (show @decide _ (xd7 (xsteps (xstep (xcf 20 xscA) xMT xFT xFD xTY xTC (xSTX ++ [xscA]) xm251) 700 xdm_S3) (some xdm_S4)) = true by decide +kernel)
theorem xdm_p4 : xsteps (xstep (xcf 20 xscA) xMT xFT xFD xTY xTC (xSTX ++ [xscA]) xm251) 700 xdm_S4 = some xdm_S5 := @of_decide_eq_true _ (xd7 _ _) (show @decide _ (xd7 (xsteps (xstep (xcf 20 xscA) xMT xFT xFD xTY xTC (xSTX ++ [xscA]) xm251) 700 xdm_S4) (some xdm_S5)) = true by decide +kernel)
theorem xdm_p5 : xsteps (xstep (xcf 20 xscA) xMT xFT xFD xTY xTC (xSTX ++ [xscA]) xm251) 700 xdm_S5 = some xdm_S6 := @of_decide_eq_true _ (xd7 _ _) (show @decide _ (xd7 (xsteps (xstep (xcf 20 xscA) xMT xFT xFD xTY xTC (xSTX ++ [xscA]) xm251) 700 xdm_S5) (some xdm_S6)) = true by decide +kernel)
def xdm_w : XW := (xw0.set 57 (.inl (10, [xi 0, .inr (.inr (1, 58)), xi 0, .inr (.inl (some 0)), .inr (.inl (some 0)), .inr (.inl (some 1)), xi 0, .inr (.inr (1, 59)), .inr (.inr (1, 60)), .inr (.inr (1, 61)), .inr (.inr (1, 62)), .inr (.inr (1, 63)), .inr (.inr (1, 64)), .inr (.inr (1, 65)), .inr (.inr (1, 66)), .inr (.inr (1, 67)), .inr (.inr (1, 68)), xi 0, xi 1, .inr (.inr (1, 69)), .inr (.inr (1, 70)), .inr (.inr (1, 71)), .inr (.inr (1, 72)), .inr (.inr (1, 73)), .inr (.inr (1, 74)), .inr (.inr (1, 75)), .inr (.inr (1, 76)), .inr (.inr (1, 77)), .inr (.inr (1, 78)), .inr (.inr (1, 79)), xi 0, .inr (.inr (1, 80)), .inr (.inr (1, 81)), .inr (.inr (1, 82)), .inr (.inr (1, 83)), .inr (.inr (1, 84)), xi 0, .inr (.inr (1, 85)), .inr (.inr (1, 86)), .inr (.inr (1, 87)), .inr (.inr (1, 88)), .inr (.inr (1, 89)), .inr (.inr (1, 90)), .inr (.inr (1, 91)), .inr (.inr (1, 92)), .inr (.inr (1, 93)), .inr (.inr (1, 94)), .inr (.inr (1, 95)), .inr (.inr (1, 96)), .inr (.inr (1, 97)), .inr (.inl (some 2127358785026472617))])))
theorem xdm_e : xrun (xstep (xcf 20 xscA) xMT xFT xFD xTY xTC (xSTX ++ [xscA]) xm251) 20 xdm_S6 = some (.inr ((some (.inr (.inl (some 2127358785026472617)))), xdm_w, 0, 0)) := @of_decide_eq_true _ (xd9 _ _) (show @decide _ (xd9 (xrun (xstep (xcf 20 xscA) xMT xFT xFD xTY xTC (xSTX ++ [xscA]) xm251) 20 xdm_S6) (some (.inr ((some (.inr (.inl (some 2127358785026472617)))), xdm_w, 0, 0)))) = true by decide +kernel)
theorem xdm_road : xroad (xstep (xcf 20 xscA) xMT xFT xFD xTY xTC (xSTX ++ [xscA]) xm251) xdm_S0 ((some (.inr (.inl (some 2127358785026472617)))), xdm_w, 0, 0) := xroad.steps xdm_p0 (xroad.steps xdm_p1 (xroad.steps xdm_p2 (xroad.steps xdm_p3 (xroad.steps xdm_p4 (xroad.steps xdm_p5 (xroad.run xdm_e))))))
end
section
/-! ===== op 46: digest ===== -/
def xD_a : XS := (1674, xlv, [.inr (.inr (1, 0))], xw0, 162, 6070)
def xD_b : XS := (1677, xlv, [.inr (.inl (some 2127358785026472617))], xdc_w, 162, 6070)
def xD_c : XS := (1678, xlv, [.inr (.inr (1, 57)), .inr (.inl (some 2127358785026472617))], xdc_w, 162, 6070)
def xD_d : XS := (1681, xlv, [.inr (.inl (some 2127358785026472617)), .inr (.inl (some 2127358785026472617))], xdm_w, 162, 6070)
theorem xD_1 : xsteps (xlst 20 xscA) 2 (xS 46) = some xD_a := @of_decide_eq_true _ (xd7 _ _) (show @decide _ (xd7 (xsteps (xlst 20 xscA) 2 (xS 46)) (some xD_a)) = true by decide +kernel)
theorem xD_2 : xsteps (xlst 20 xscA) 1 xD_b = some xD_c := @of_decide_eq_true _ (xd7 _ _) (show @decide _ (xd7 (xsteps (xlst 20 xscA) 1 xD_b) (some xD_c)) = true by decide +kernel)
theorem xD_3 : xgood xscA xD_d = true := by decide +kernel
theorem xD_f1 : xfetch (xm_t xmL) 1674 = some (.invokevirtual 205, 152, 1, 0) := by decide +kernel
theorem xD_f2 : xfetch (xm_t xmL) 1678 = some (.invokevirtual 208, 251, 1, 0) := by decide +kernel
theorem xD_h1 : xh_call (fun _ _ _ => some (some (.inr (.inl (some 2127358785026472617))), xdc_w)) xmL (some xm152) 152 1 true 1674 xlv [.inr (.inr (1, 0))] xw0 162 6070 = some (.inl xD_b) := @of_decide_eq_true _ (xd9 _ _) (show @decide _ (xd9 (xh_call (fun _ _ _ => some (some (.inr (.inl (some 2127358785026472617))), xdc_w)) xmL (some xm152) 152 1 true 1674 xlv [.inr (.inr (1, 0))] xw0 162 6070) (some (.inl xD_b))) = true by decide +kernel)
theorem xD_h2 : xh_call (fun _ _ _ => some (some (.inr (.inl (some 2127358785026472617))), xdm_w)) xmL (some xm251) 251 1 true 1678 xlv [.inr (.inr (1, 57)), .inr (.inl (some 2127358785026472617))] xdc_w 162 6070 = some (.inl xD_d) := @of_decide_eq_true _ (xd9 _ _) (show @decide _ (xd9 (xh_call (fun _ _ _ => some (some (.inr (.inl (some 2127358785026472617))), xdm_w)) xmL (some xm251) 251 1 true 1678 xlv [.inr (.inr (1, 57)), .inr (.inl (some 2127358785026472617))] xdc_w 162 6070) (some (.inl xD_d))) = true by decide +kernel)
theorem xD_w1 : xwle xdc_w xdc_w = true := by decide +kernel
theorem xD_w2 : xwle xdm_w xdm_w = true := by decide +kernel
theorem xscA_in (xs : Nat → Int32) : ∀ (i : Nat) (x : XV), xscA[i]? = some x → xv_in [] [] x (.int (xs i)) := by
  intro i x hx
  match i, hx with
  | 0, hx => cases hx; exact ⟨xs 0, rfl, x_rng _⟩
  | 1, hx => cases hx; exact ⟨xs 1, rfl, x_rng _⟩
  | 2, hx => cases hx; exact ⟨xs 2, rfl, x_rng _⟩
  | 3, hx => cases hx; exact ⟨xs 3, rfl, x_rng _⟩
  | 4, hx => cases hx; exact ⟨xs 4, rfl, x_rng _⟩
  | 5, hx => cases hx; exact ⟨xs 5, rfl, x_rng _⟩
  | i + 6, hx => simp [xscA] at hx
section XLW
variable {p : Program} {l : Launch} {e : Env} {s : State} {m : MethodId} {below : List Frame} {meth : Method} {c : Code} {b L : Nat} {xs : Nat → Int32} {D : va_G} {tA : Nat → ClassId} {ex : List Nat}
set_option maxRecDepth 100000 in
theorem xlaw_46 (C0 : lw_At p s m meth c b L xs) (hEn : ∀ sc : List XV, sc.length = 6 → (∀ (i : Nat) (x : XV), sc[i]? = some x → xv_in [] [] x (.int (xs i))) → XEnv D vwCl (tysX tA) ex (xSTX ++ [sc]) xSV xNW xNF (fun q : Nat => s.heap.size ≤ q) s) : XLS p l e s m b below meth c D tA ex (.inl (xS 46)) := by
  have hE := hEn xscA rfl (xscA_in xs)
  have hcf : ∀ (j : Nat) (N : XM) (as : List XV) (w : XW) (ro : Option XV) (w' : XW), xMT j = some N → xcf 20 xscA j as w = some (ro, w') → XMet l D vwCl (tysX tA) tA ex (xSTX ++ [xscA]) xSV xNW xNF xTs N as w ro w' := fun j N as w ro w' => xcall_met x_good (x_tysX tA) (x_tysY tA) (x_tysC tA) x_ok (fun j N as w ro w' _ h => by cases h) 8 j N as w ro w'
  have m1 : XMet l D vwCl (tysX tA) tA ex (xSTX ++ [xscA]) xSV xNW xNF xTs xm152 [.inr (.inr (1, 0))] xw0 (some (.inr (.inl (some 2127358785026472617)))) xdc_w := xmet_of x_good (x_tysX tA) (x_tysY tA) (x_tysC tA) x_ok hcf (j := 152) rfl (by decide +kernel) ⟨by decide +kernel, by decide +kernel⟩ xD_w1 xdc_road
  have m2 : XMet l D vwCl (tysX tA) tA ex (xSTX ++ [xscA]) xSV xNW xNF xTs xm251 [.inr (.inr (1, 57))] xdc_w (some (.inr (.inl (some 2127358785026472617)))) xdm_w := xmet_of x_good (x_tysX tA) (x_tysY tA) (x_tysC tA) x_ok hcf (j := 251) rfl (by decide +kernel) ⟨by decide +kernel, by decide +kernel⟩ xD_w2 xdm_road
  refine xsteps_ok (P := XLS p l e s m b below meth c D tA ex) (xlaw_step C0 hE) 2 (xS 46) xD_a xD_1 ?_
  refine xlaw_call C0 hE xD_f1 rfl m1 xD_h1 ?_
  refine xsteps_ok (P := XLS p l e s m b below meth c D tA ex) (xlaw_step C0 hE) 1 xD_b xD_c xD_2 ?_
  refine xlaw_call C0 hE xD_f2 rfl m2 xD_h2 ?_
  exact xlaw_run C0 hE xD_3
end XLW
end
section
/-! ===== roads with calls by contract and with bounds split ===== -/
theorem xk_at {as ex : List Nat} : ∀ {xs : XL} {l : List (Nat × Value)} {j i : Nat} {q : Int × Int}, xk_in as ex xs l → xs[j]? = some (i, .inl q) → ∃ x : Int32, q.1 ≤ x.toInt ∧ x.toInt ≤ q.2 ∧ xk_in as ex (xs.set j (i, xi x.toInt)) l
  | [], _, _, _, _, _, hj => by simp at hj
  | y :: xs, _, j, i, q, ⟨v, l', e, h, k⟩, hj => by
    cases j with
    | zero =>
      rw [List.getElem?_cons_zero] at hj
      cases hj
      obtain ⟨x, e1, h1, h2⟩ := h
      exact ⟨x, h1, h2, v, l', e, ⟨x, e1, Int.le_refl _, Int.le_refl _⟩, k⟩
    | succ j =>
      rw [List.getElem?_cons_succ] at hj
      obtain ⟨x, h1, h2, h3⟩ := xk_at k hj
      exact ⟨x, h1, h2, v, l', e, h, h3⟩
theorem xsat_split {p : Program} {l : Launch} {e : Env} {R : Room} {s : State} {m : MethodId} {args : Array Value} {below : List Frame} {meth : Method} {c : Code} {Q : State → Prop} {nL : Nat} {D : va_G} {cl : List vw_C} {tA : Nat → ClassId} {A : Nat → Prop} {as0 ex : List Nat} {pc : Nat} {lv : XL} {st : List XV} {w : XW} {k n j i : Nat} {q : Int × Int} (hj : lv[j]? = some (i, .inl q)) (hs : ∀ z : Int, q.1 ≤ z → z ≤ q.2 → XSat p l e R s m args below meth c Q nL D cl tA A as0 ex (pc, lv.set j (i, xi z), st, w, k, n)) : XSat p l e R s m args below meth c Q nL D cl tA A as0 ex (pc, lv, st, w, k, n) := by
  intro H locs ls vs lw ws ⟨h1, h2, h3, h4, h5, h6, h7, h8⟩
  obtain ⟨x, x1, x2, h1'⟩ := xk_at h1 hj
  exact hs x.toInt x1 x2 H locs ls vs lw ws ⟨h1', h2, h3, h4, h5, h6, h7, h8⟩
/-- a step over a call by the callee's contract -/
def XJ (l : Launch) (D : va_G) (cl : List vw_C) (tys : List (ClassId × FieldType)) (tA : Nat → ClassId) (ex : List Nat) (exc : List (List XV)) (SV : List (String × String × String × Nat)) (NW : List (String × Nat × MethodName × String)) (NF : List (String × Nat × String × String × String × String)) (Ts : List Cond) (MT : Nat → Option XM) (FT : Nat → Nat → Option FieldType) (FD : Nat → Option (List XV)) (TY : Nat → Option FieldType) (TC : Nat → Option Nat) (M : XM) (S S' : XS) : Prop := ∃ (i : Instr) (a d : Nat) (z : Int) (N : XM) (ro : Option XV) (w' : XW), xfetch (xm_t M) S.1 = some (i, a, d, z) ∧ MT a = some N ∧ XMet l D cl tys tA ex exc SV NW NF Ts N (S.2.2.1.take d).reverse S.2.2.2.1 ro w' ∧ ∀ cf : XF, cf a (S.2.2.1.take d).reverse S.2.2.2.1 = some (ro, w') → xins cf MT FT FD TY TC exc M i a d z S.1 S.2.1 S.2.2.1 S.2.2.2.1 S.2.2.2.2.1 S.2.2.2.2.2 = some (.inl S')
def xroadJ (f : XS → Option XR) (J : XS → XS → Prop) (S : XS) (q : Option XV × XW × Nat × Nat) : Prop := ∀ P : XR → Prop, (∀ S r, f S = some r → P r → P (.inl S)) → (∀ S S', xsle S S' = true → P (.inl S') → P (.inl S)) → (∀ S S', J S S' → P (.inl S') → P (.inl S)) → (∀ (pc : Nat) (lv : XL) (st : List XV) (w : XW) (k n j i : Nat) (q : Int × Int), lv[j]? = some (i, .inl q) → (∀ z : Int, q.1 ≤ z → z ≤ q.2 → P (.inl (pc, lv.set j (i, xi z), st, w, k, n))) → P (.inl (pc, lv, st, w, k, n))) → P (.inr q) → P (.inl S)
theorem xroadJ.run {f : XS → Option XR} {J : XS → XS → Prop} {fu : Nat} {S : XS} {q : Option XV × XW × Nat × Nat} (h : xrun f fu S = some (.inr q)) : xroadJ f J S q := fun _ h1 _ _ _ h3 => xrun_ok h1 fu S _ h h3
theorem xroadJ.steps {f : XS → Option XR} {J : XS → XS → Prop} {n : Nat} {S S' : XS} {q : Option XV × XW × Nat × Nat} (h : xsteps f n S = some S') (k : xroadJ f J S' q) : xroadJ f J S q := fun P h1 h2 h3 h4 h5 => xsteps_ok h1 n S S' h (k P h1 h2 h3 h4 h5)
theorem xroadJ.wide {f : XS → Option XR} {J : XS → XS → Prop} {S S' : XS} {q : Option XV × XW × Nat × Nat} (h : xsle S S' = true) (k : xroadJ f J S' q) : xroadJ f J S q := fun P h1 h2 h3 h4 h5 => h2 S S' h (k P h1 h2 h3 h4 h5)
theorem xroadJ.jump {f : XS → Option XR} {J : XS → XS → Prop} {S S' : XS} {q : Option XV × XW × Nat × Nat} (h : J S S') (k : xroadJ f J S' q) : xroadJ f J S q := fun P h1 h2 h3 h4 h5 => h3 S S' h (k P h1 h2 h3 h4 h5)
theorem xroadJ.split {f : XS → Option XR} {J : XS → XS → Prop} {pc : Nat} {lv : XL} {st : List XV} {w : XW} {k n j i : Nat} {q0 : Int × Int} {q : Option XV × XW × Nat × Nat} (hj : lv[j]? = some (i, .inl q0)) (hk : ∀ z : Int, q0.1 ≤ z → z ≤ q0.2 → xroadJ f J (pc, lv.set j (i, xi z), st, w, k, n) q) : xroadJ f J (pc, lv, st, w, k, n) q := fun P h1 h2 h3 h4 h5 => h4 pc lv st w k n j i q0 hj (fun z z1 z2 => hk z z1 z2 P h1 h2 h3 h4 h5)
set_option maxHeartbeats 4000000 in
/-- a method's contract out of a road with calls and splits -/
theorem xmet_ofJ {l : Launch} {D : va_G} {cl : List vw_C} {tys : List (ClassId × FieldType)} {tA : Nat → ClassId} {ex : List Nat} {exc : List (List XV)} {Ts : List Cond} {SV : List (String × String × String × Nat)} {NW : List (String × Nat × MethodName × String)} {NF : List (String × Nat × String × String × String × String)} {MT : Nat → Option XM} {FT : Nat → Nat → Option FieldType} {FD : Nat → Option (List XV)} {TY : Nat → Option FieldType} {TC : Nat → Option Nat} {cf : XF} (hG : ∀ w ∈ Ts, (w.onTables && w.keeps) = true ∨ ∃ ty, w = .arrayClass ty) (hT : xty tys tA) (hTY : ∀ t C, 3 ≤ t → t < 7 → TY t = some (.object C) → tys[t]? = some (tA t, .object C)) (hTC : ∀ t b, TC t = some b → 3 ≤ t ∧ t < 7 ∧ ∃ o : vw_C, cl[b]? = some o ∧ tys[t]? = some (tA t, .object o.1))
    (hok : ∀ j N, MT j = some N → plainName (xm_y N).cls = true ∧ ∀ pc q, xfetch (xm_t N) pc = some q → xdec (xm_c N) pc q.1 ∧ xaux cl Ts MT FT FD TY SV NW NF N pc q.2.1 q.2.2.1 q.2.2.2 q.1)
    (hcf : ∀ (j : Nat) (N : XM) (as : List XV) (w : XW) (ro : Option XV) (w' : XW), MT j = some N → cf j as w = some (ro, w') → XMet l D cl tys tA ex exc SV NW NF Ts N as w ro w')
    {j : Nat} {N : XM} (hN : MT j = some N) {as : List XV} {w : XW} {ro : Option XV} {w2 w' : XW} {k2 n2 : Nat} (hc : (as.map xcat).sum ≤ xm_l N) (hcap : k2 ≤ xm_k N ∧ n2 ≤ xm_n N) (hw2 : xwle w2 w' = true) (hrun : xroadJ (xstep cf MT FT FD TY TC exc N) (XJ l D cl tys tA ex exc SV NW NF Ts MT FT FD TY TC N) (0, xk_args 0 as, [], w, 0, 0) (ro, w2, k2, n2)) : XMet l D cl tys tA ex exc SV NW NF Ts N as w ro w' := by
  intro vals ws sz hvals hws
  refine Met.ofW (cc := xm_c N) (maxL := xm_l N) (ret := xm_r N) (hok j N hN).1 rfl ?_
  intro p e s m args below meth c s₁ B hml hv
  obtain ⟨rfl, hsz, hP, hD0, hE⟩ := hv
  have hx := B.exec
  have hb := B.bytes
  have hr := B.returns
  have hts0 := atoms_spec (ws := xws Ts N) B.pre
  have hts : ∀ w ∈ Ts, w.before vals.toArray s = true := fun w h => hts0 w (List.mem_cons_of_mem _ h)
  have hown : s.vm.findClass (xm_y N).cls = some m.cls := findClass_of_methodNamed B.named
  have hname : (xm_y N).name = "<init>" → meth.name = "<init>" := fun h => (name_of_methodNamed B.named B.method).1.trans h
  have hlocks := B.notSynchronized
  subst hsz
  have hD := hD0.self (sz := s.heap.size)
  have hA : ∀ q : Nat, s.heap.size ≤ q → va_A ws s.heap.size q := fun q h => Or.inr h
  have hl := lv_entry vals (n := xm_l N) (by rw [x_lgsl, hvals.cats]; exact hc)
  rw [lg_entry_eq]
  have key := hrun (XRs p l e (headSpec (xws Ts N) (xrm N)).room s m vals.toArray below meth c (MQ below (XQ D cl tA ex ro w' ws s.heap.size) vals.toArray s (xm_k N) (xm_n N) (va_A ws s.heap.size)) (xm_c N) (xm_l N) D cl tA (va_A ws s.heap.size) (xad ws) ex (xm_r N)) (fun S r hS hR => by
    unfold xstep at hS
    cases hf : xfetch (xm_t N) S.1 with
    | none => rw [hf] at hS; cases hS
    | some q =>
      rw [hf] at hS
      obtain ⟨od, oa⟩ := (hok j N hN).2 S.1 q hf
      exact xins_ok hx hb hml hown hname hts hG hE hA rfl rfl rfl rfl hT hTY hTC hcf od oa hS hR) (fun S S' h hS => xsat_mono h hS) (fun S S' h hS => by
    obtain ⟨i0, a0, d0, z0, N0, ro0, w0, f1, f2, f3, f4⟩ := h
    obtain ⟨od, oa⟩ := (hok j N hN).2 S.1 _ f1
    obtain ⟨cf2, g0, g1⟩ : ∃ cf2 : XF, cf2 a0 (S.2.2.1.take d0).reverse S.2.2.2.1 = some (ro0, w0) ∧ ∀ (j : Nat) (as : List XV) (w1 : XW) (q : Option XV × XW), cf2 j as w1 = some q → j = a0 ∧ as = (S.2.2.1.take d0).reverse ∧ w1 = S.2.2.2.1 ∧ q = (ro0, w0) := by
      refine ⟨fun j as w1 => @ite (Option (Option XV × XW)) (j = a0 ∧ as = (S.2.2.1.take d0).reverse ∧ w1 = S.2.2.2.1) (Classical.propDecidable _) (some (ro0, w0)) none, if_pos ⟨rfl, rfl, rfl⟩, fun j as w1 q h => ?_⟩
      by_cases hq : j = a0 ∧ as = (S.2.2.1.take d0).reverse ∧ w1 = S.2.2.2.1
      · have h : @ite (Option (Option XV × XW)) (j = a0 ∧ as = (S.2.2.1.take d0).reverse ∧ w1 = S.2.2.2.1) (Classical.propDecidable _) (some (ro0, w0)) none = some q := h
        rw [if_pos hq] at h
        exact ⟨hq.1, hq.2.1, hq.2.2, (Option.some.inj h).symm⟩
      · have h : @ite (Option (Option XV × XW)) (j = a0 ∧ as = (S.2.2.1.take d0).reverse ∧ w1 = S.2.2.2.1) (Classical.propDecidable _) (some (ro0, w0)) none = some q := h
        rw [if_neg hq] at h
        cases h
    exact xins_ok (cf := cf2) hx hb hml hown hname hts hG hE hA rfl rfl rfl rfl hT hTY hTC (fun j' N' as' w1 ro' w2' hN' h => by
      obtain ⟨rfl, rfl, rfl, e1⟩ := g1 j' as' w1 _ h
      cases e1
      have e0 : N' = N0 := Option.some.inj (hN'.symm.trans f2)
      subst e0
      exact f3) od oa (f4 cf2 g0) hS) (fun pc lv st w k n j i q hj hs => xsat_split hj hs) ?_
  · exact key s.heap [] _ [] (lv_args 0 vals) ws ⟨xk_in.args 0 hvals, rfl, hws, hP, hD, va_S.rf, hl, [], by simp⟩
  · intro pc i H locs ls rv ws' hd hrt hrk ho hz hw hP hD hS htl
    refine W.widen hcap.1 hcap.2 ?_
    have fin : ∀ (o : Option Value), o = rv → ∀ t : State, t.heap = H → s.WarmedH t.vm → XQ D cl tA ex ro w' ws s.heap.size vals.toArray s (.returned o) t := fun o e0 t ht _ => ⟨⟨rv, ws', by rw [e0], ho, by rw [ht]; exact hP, hD, xwle_in hw2 hw, htl⟩, hS.F ht⟩
    cases i with
    | ireturn =>
      obtain ⟨x, rfl⟩ := hrk
      rcases hrt with h0 | h0
      · exact W.iret (v := x) hx hb (hr.trans h0) (fin _ rfl) hS.2.2 hd
      · exact W.zret (v := x) (ty := .boolean) hx hb (hr.trans h0) (by rcases hz (by rw [h0]; rfl) x rfl with rfl | rfl <;> decide +kernel) (fin _ rfl) hS.2.2 hd
    | lreturn =>
      obtain ⟨x, rfl⟩ := hrk
      exact W.lret (v := x) hx hb (hr.trans hrt) (fin _ rfl) hS.2.2 hd
    | areturn =>
      obtain ⟨C, hrt⟩ := hrt
      rcases hrk with rfl | ⟨x, rfl⟩
      · exact W.aret (v := .null) hx hb (hr.trans hrt) (Or.inl ⟨C, rfl⟩) (Or.inl rfl) (fin _ rfl) hS.2.2 hd
      · exact W.aret (v := .ref x) hx hb (hr.trans hrt) (Or.inl ⟨C, rfl⟩) (Or.inr ⟨x, rfl⟩) (fin _ rfl) hS.2.2 hd
    | return_ =>
      have hrk : rv = none := hrk
      subst hrk
      exact W.vret hx hb (hr.trans hrt) (fin _ rfl) hS.2.2 hd
    | _ => exact absurd hrk id
end
section
/-! ===== runs of op 0 ===== -/
def xF_0_0 (j : Nat) : Bool := xf5 0 (0 + ((0 : Nat) : Int), 0 + ((0 : Nat) : Int)) (0 + (j : Int), 0 + (j : Int)) xA3
theorem xp_0_0_0 : (List.range 14).all (fun i => xF_0_0 (0 + i)) = true := sorry
theorem xp_0_0_14 : (List.range 14).all (fun i => xF_0_0 (14 + i)) = true := sorry
theorem xp_0_0_28 : (List.range 13).all (fun i => xF_0_0 (28 + i)) = true := sorry
def xF_0_1 (j : Nat) : Bool := xf5 0 (0 + ((1 : Nat) : Int), 0 + ((1 : Nat) : Int)) (0 + (j : Int), 0 + (j : Int)) xA3
theorem xp_0_1_0 : (List.range 14).all (fun i => xF_0_1 (0 + i)) = true := sorry
theorem xp_0_1_14 : (List.range 14).all (fun i => xF_0_1 (14 + i)) = true := sorry
theorem xp_0_1_28 : (List.range 13).all (fun i => xF_0_1 (28 + i)) = true := sorry
def xF_0_2 (j : Nat) : Bool := xf5 0 (0 + ((2 : Nat) : Int), 0 + ((2 : Nat) : Int)) (0 + (j : Int), 0 + (j : Int)) xA3
theorem xp_0_2_0 : (List.range 14).all (fun i => xF_0_2 (0 + i)) = true := sorry
theorem xp_0_2_14 : (List.range 14).all (fun i => xF_0_2 (14 + i)) = true := sorry
theorem xp_0_2_28 : (List.range 13).all (fun i => xF_0_2 (28 + i)) = true := sorry
def xF_0_3 (j : Nat) : Bool := xf5 0 (0 + ((3 : Nat) : Int), 0 + ((3 : Nat) : Int)) (0 + (j : Int), 0 + (j : Int)) xA3
theorem xp_0_3_0 : (List.range 14).all (fun i => xF_0_3 (0 + i)) = true := sorry
theorem xp_0_3_14 : (List.range 14).all (fun i => xF_0_3 (14 + i)) = true := sorry
theorem xp_0_3_28 : (List.range 13).all (fun i => xF_0_3 (28 + i)) = true := sorry
def xF_0_4 (j : Nat) : Bool := xf5 0 (0 + ((4 : Nat) : Int), 0 + ((4 : Nat) : Int)) (0 + (j : Int), 0 + (j : Int)) xA3
theorem xp_0_4_0 : (List.range 14).all (fun i => xF_0_4 (0 + i)) = true := sorry
theorem xp_0_4_14 : (List.range 14).all (fun i => xF_0_4 (14 + i)) = true := sorry
theorem xp_0_4_28 : (List.range 13).all (fun i => xF_0_4 (28 + i)) = true := sorry
def xF_0_5 (j : Nat) : Bool := xf5 0 (0 + ((5 : Nat) : Int), 0 + ((5 : Nat) : Int)) (0 + (j : Int), 0 + (j : Int)) xA3
theorem xp_0_5_0 : (List.range 14).all (fun i => xF_0_5 (0 + i)) = true := sorry
theorem xp_0_5_14 : (List.range 14).all (fun i => xF_0_5 (14 + i)) = true := sorry
theorem xp_0_5_28 : (List.range 13).all (fun i => xF_0_5 (28 + i)) = true := sorry
end
section
/-! ===== runs of op 5 ===== -/
def xF_5_0 (j : Nat) : Bool := xf5 5 (0 + ((0 : Nat) : Int), 0 + ((0 : Nat) : Int)) (0 + (j : Int), 0 + (j : Int)) xA3
theorem xp_5_0_0 : (List.range 14).all (fun i => xF_5_0 (0 + i)) = true := sorry
theorem xp_5_0_14 : (List.range 14).all (fun i => xF_5_0 (14 + i)) = true := sorry
theorem xp_5_0_28 : (List.range 13).all (fun i => xF_5_0 (28 + i)) = true := sorry
def xF_5_1 (j : Nat) : Bool := xf5 5 (0 + ((1 : Nat) : Int), 0 + ((1 : Nat) : Int)) (0 + (j : Int), 0 + (j : Int)) xA3
theorem xp_5_1_0 : (List.range 14).all (fun i => xF_5_1 (0 + i)) = true := sorry
theorem xp_5_1_14 : (List.range 14).all (fun i => xF_5_1 (14 + i)) = true := sorry
theorem xp_5_1_28 : (List.range 13).all (fun i => xF_5_1 (28 + i)) = true := sorry
def xF_5_2 (j : Nat) : Bool := xf5 5 (0 + ((2 : Nat) : Int), 0 + ((2 : Nat) : Int)) (0 + (j : Int), 0 + (j : Int)) xA3
theorem xp_5_2_0 : (List.range 14).all (fun i => xF_5_2 (0 + i)) = true := sorry
theorem xp_5_2_14 : (List.range 14).all (fun i => xF_5_2 (14 + i)) = true := sorry
theorem xp_5_2_28 : (List.range 13).all (fun i => xF_5_2 (28 + i)) = true := sorry
def xF_5_3 (j : Nat) : Bool := xf5 5 (0 + ((3 : Nat) : Int), 0 + ((3 : Nat) : Int)) (0 + (j : Int), 0 + (j : Int)) xA3
theorem xp_5_3_0 : (List.range 14).all (fun i => xF_5_3 (0 + i)) = true := sorry
theorem xp_5_3_14 : (List.range 14).all (fun i => xF_5_3 (14 + i)) = true := sorry
theorem xp_5_3_28 : (List.range 13).all (fun i => xF_5_3 (28 + i)) = true := sorry
end
section
/-! ===== op 0 put together ===== -/
theorem xr_0_0 : ∀ j, j < 41 → xF_0_0 j = true := fun j hj => by
  rcases (show j < 14 ∨ (14 ≤ j ∧ j < 28) ∨ (28 ≤ j ∧ j < 41) by omega) with h | h | h
  · exact x_pieces (F := xF_0_0) (a := 0) (b := 14) xp_0_0_0 (Nat.zero_le _) (by omega)
  · exact x_pieces (F := xF_0_0) (a := 14) (b := 14) xp_0_0_14 h.1 (by omega)
  · exact x_pieces (F := xF_0_0) (a := 28) (b := 13) xp_0_0_28 h.1 (by omega)
theorem xq_0_0 : xchk (xrg 0 41 xA3 xA3) (fun q2 l => xf5 0 (0 + ((0 : Nat) : Int), 0 + ((0 : Nat) : Int)) q2 l) = true := xchk_rg (by decide +kernel) (fun j hj => xr_0_0 j hj) (by decide +kernel)
theorem xr_0_1 : ∀ j, j < 41 → xF_0_1 j = true := fun j hj => by
  rcases (show j < 14 ∨ (14 ≤ j ∧ j < 28) ∨ (28 ≤ j ∧ j < 41) by omega) with h | h | h
  · exact x_pieces (F := xF_0_1) (a := 0) (b := 14) xp_0_1_0 (Nat.zero_le _) (by omega)
  · exact x_pieces (F := xF_0_1) (a := 14) (b := 14) xp_0_1_14 h.1 (by omega)
  · exact x_pieces (F := xF_0_1) (a := 28) (b := 13) xp_0_1_28 h.1 (by omega)
theorem xq_0_1 : xchk (xrg 0 41 xA3 xA3) (fun q2 l => xf5 0 (0 + ((1 : Nat) : Int), 0 + ((1 : Nat) : Int)) q2 l) = true := xchk_rg (by decide +kernel) (fun j hj => xr_0_1 j hj) (by decide +kernel)
theorem xr_0_2 : ∀ j, j < 41 → xF_0_2 j = true := fun j hj => by
  rcases (show j < 14 ∨ (14 ≤ j ∧ j < 28) ∨ (28 ≤ j ∧ j < 41) by omega) with h | h | h
  · exact x_pieces (F := xF_0_2) (a := 0) (b := 14) xp_0_2_0 (Nat.zero_le _) (by omega)
  · exact x_pieces (F := xF_0_2) (a := 14) (b := 14) xp_0_2_14 h.1 (by omega)
  · exact x_pieces (F := xF_0_2) (a := 28) (b := 13) xp_0_2_28 h.1 (by omega)
theorem xq_0_2 : xchk (xrg 0 41 xA3 xA3) (fun q2 l => xf5 0 (0 + ((2 : Nat) : Int), 0 + ((2 : Nat) : Int)) q2 l) = true := xchk_rg (by decide +kernel) (fun j hj => xr_0_2 j hj) (by decide +kernel)
theorem xr_0_3 : ∀ j, j < 41 → xF_0_3 j = true := fun j hj => by
  rcases (show j < 14 ∨ (14 ≤ j ∧ j < 28) ∨ (28 ≤ j ∧ j < 41) by omega) with h | h | h
  · exact x_pieces (F := xF_0_3) (a := 0) (b := 14) xp_0_3_0 (Nat.zero_le _) (by omega)
  · exact x_pieces (F := xF_0_3) (a := 14) (b := 14) xp_0_3_14 h.1 (by omega)
  · exact x_pieces (F := xF_0_3) (a := 28) (b := 13) xp_0_3_28 h.1 (by omega)
theorem xq_0_3 : xchk (xrg 0 41 xA3 xA3) (fun q2 l => xf5 0 (0 + ((3 : Nat) : Int), 0 + ((3 : Nat) : Int)) q2 l) = true := xchk_rg (by decide +kernel) (fun j hj => xr_0_3 j hj) (by decide +kernel)
theorem xr_0_4 : ∀ j, j < 41 → xF_0_4 j = true := fun j hj => by
  rcases (show j < 14 ∨ (14 ≤ j ∧ j < 28) ∨ (28 ≤ j ∧ j < 41) by omega) with h | h | h
  · exact x_pieces (F := xF_0_4) (a := 0) (b := 14) xp_0_4_0 (Nat.zero_le _) (by omega)
  · exact x_pieces (F := xF_0_4) (a := 14) (b := 14) xp_0_4_14 h.1 (by omega)
  · exact x_pieces (F := xF_0_4) (a := 28) (b := 13) xp_0_4_28 h.1 (by omega)
theorem xq_0_4 : xchk (xrg 0 41 xA3 xA3) (fun q2 l => xf5 0 (0 + ((4 : Nat) : Int), 0 + ((4 : Nat) : Int)) q2 l) = true := xchk_rg (by decide +kernel) (fun j hj => xr_0_4 j hj) (by decide +kernel)
theorem xr_0_5 : ∀ j, j < 41 → xF_0_5 j = true := fun j hj => by
  rcases (show j < 14 ∨ (14 ≤ j ∧ j < 28) ∨ (28 ≤ j ∧ j < 41) by omega) with h | h | h
  · exact x_pieces (F := xF_0_5) (a := 0) (b := 14) xp_0_5_0 (Nat.zero_le _) (by omega)
  · exact x_pieces (F := xF_0_5) (a := 14) (b := 14) xp_0_5_14 h.1 (by omega)
  · exact x_pieces (F := xF_0_5) (a := 28) (b := 13) xp_0_5_28 h.1 (by omega)
theorem xq_0_5 : xchk (xrg 0 41 xA3 xA3) (fun q2 l => xf5 0 (0 + ((5 : Nat) : Int), 0 + ((5 : Nat) : Int)) q2 l) = true := xchk_rg (by decide +kernel) (fun j hj => xr_0_5 j hj) (by decide +kernel)
theorem xop_0 : xchk5 (xrg 0 6 (xcut 41 xA3 xA3) (xrg 0 41 xA3 xA3)) (fun sc => xgood sc (xS 0)) = true := xchk_rg (F := fun q1 l => xchk l (fun q2 l => xf5 0 q1 q2 l)) (by decide +kernel) (fun r hr => by
  match r, hr with
  | 0, _ => exact xq_0_0
  | 1, _ => exact xq_0_1
  | 2, _ => exact xq_0_2
  | 3, _ => exact xq_0_3
  | 4, _ => exact xq_0_4
  | 5, _ => exact xq_0_5
  | r + 6, hr => exact absurd hr (by omega)) (by decide +kernel)
end
section
/-! ===== op 5 put together ===== -/
theorem xr_5_0 : ∀ j, j < 41 → xF_5_0 j = true := fun j hj => by
  rcases (show j < 14 ∨ (14 ≤ j ∧ j < 28) ∨ (28 ≤ j ∧ j < 41) by omega) with h | h | h
  · exact x_pieces (F := xF_5_0) (a := 0) (b := 14) xp_5_0_0 (Nat.zero_le _) (by omega)
  · exact x_pieces (F := xF_5_0) (a := 14) (b := 14) xp_5_0_14 h.1 (by omega)
  · exact x_pieces (F := xF_5_0) (a := 28) (b := 13) xp_5_0_28 h.1 (by omega)
theorem xq_5_0 : xchk (xrg 0 41 xA3 xA3) (fun q2 l => xf5 5 (0 + ((0 : Nat) : Int), 0 + ((0 : Nat) : Int)) q2 l) = true := xchk_rg (by decide +kernel) (fun j hj => xr_5_0 j hj) (by decide +kernel)
theorem xr_5_1 : ∀ j, j < 41 → xF_5_1 j = true := fun j hj => by
  rcases (show j < 14 ∨ (14 ≤ j ∧ j < 28) ∨ (28 ≤ j ∧ j < 41) by omega) with h | h | h
  · exact x_pieces (F := xF_5_1) (a := 0) (b := 14) xp_5_1_0 (Nat.zero_le _) (by omega)
  · exact x_pieces (F := xF_5_1) (a := 14) (b := 14) xp_5_1_14 h.1 (by omega)
  · exact x_pieces (F := xF_5_1) (a := 28) (b := 13) xp_5_1_28 h.1 (by omega)
theorem xq_5_1 : xchk (xrg 0 41 xA3 xA3) (fun q2 l => xf5 5 (0 + ((1 : Nat) : Int), 0 + ((1 : Nat) : Int)) q2 l) = true := xchk_rg (by decide +kernel) (fun j hj => xr_5_1 j hj) (by decide +kernel)
theorem xr_5_2 : ∀ j, j < 41 → xF_5_2 j = true := fun j hj => by
  rcases (show j < 14 ∨ (14 ≤ j ∧ j < 28) ∨ (28 ≤ j ∧ j < 41) by omega) with h | h | h
  · exact x_pieces (F := xF_5_2) (a := 0) (b := 14) xp_5_2_0 (Nat.zero_le _) (by omega)
  · exact x_pieces (F := xF_5_2) (a := 14) (b := 14) xp_5_2_14 h.1 (by omega)
  · exact x_pieces (F := xF_5_2) (a := 28) (b := 13) xp_5_2_28 h.1 (by omega)
theorem xq_5_2 : xchk (xrg 0 41 xA3 xA3) (fun q2 l => xf5 5 (0 + ((2 : Nat) : Int), 0 + ((2 : Nat) : Int)) q2 l) = true := xchk_rg (by decide +kernel) (fun j hj => xr_5_2 j hj) (by decide +kernel)
theorem xr_5_3 : ∀ j, j < 41 → xF_5_3 j = true := fun j hj => by
  rcases (show j < 14 ∨ (14 ≤ j ∧ j < 28) ∨ (28 ≤ j ∧ j < 41) by omega) with h | h | h
  · exact x_pieces (F := xF_5_3) (a := 0) (b := 14) xp_5_3_0 (Nat.zero_le _) (by omega)
  · exact x_pieces (F := xF_5_3) (a := 14) (b := 14) xp_5_3_14 h.1 (by omega)
  · exact x_pieces (F := xF_5_3) (a := 28) (b := 13) xp_5_3_28 h.1 (by omega)
theorem xq_5_3 : xchk (xrg 0 41 xA3 xA3) (fun q2 l => xf5 5 (0 + ((3 : Nat) : Int), 0 + ((3 : Nat) : Int)) q2 l) = true := xchk_rg (by decide +kernel) (fun j hj => xr_5_3 j hj) (by decide +kernel)
theorem xop_5 : xchk5 (xrg 0 4 (xcut 41 xA3 xA3) (xrg 0 41 xA3 xA3)) (fun sc => xgood sc (xS 5)) = true := xchk_rg (F := fun q1 l => xchk l (fun q2 l => xf5 5 q1 q2 l)) (by decide +kernel) (fun r hr => by
  match r, hr with
  | 0, _ => exact xq_5_0
  | 1, _ => exact xq_5_1
  | 2, _ => exact xq_5_2
  | 3, _ => exact xq_5_3
  | r + 4, hr => exact absurd hr (by omega)) (by decide +kernel)
end
