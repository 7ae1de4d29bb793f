section
/-! ===== a machine of bounds: ints between bounds, longs exact or any, references by the places of their cells ===== -/
abbrev XV : Type := (Int × Int) ⊕ (Option Int) ⊕ (Nat × Nat)
abbrev XL : Type := List (Nat × XV)
abbrev XC : Type := (Nat × List XV) ⊕ (Nat × List XV)
abbrev XW : Type := List XC
abbrev XE : Type := Instr × Nat × Nat × Int
abbrev XS : Type := Nat × XL × List XV × XW × Nat × Nat
abbrev XR : Type := XS ⊕ (Option XV × XW × Nat × Nat)
/-- a method: its name, code, locals, answer, room (frames, locals), cells and slots that it may make, its class's number, its instructions -/
abbrev XM : Type := MethodName × ByteArray × Nat × Option FieldType × Nat × Nat × Nat × Nat × Nat × List (List (Option XE))
abbrev xm_y (M : XM) : MethodName := M.1
abbrev xm_c (M : XM) : ByteArray := M.2.1
abbrev xm_l (M : XM) : Nat := M.2.2.1
abbrev xm_r (M : XM) : Option FieldType := M.2.2.2.1
abbrev xm_f (M : XM) : Nat := M.2.2.2.2.1
abbrev xm_o (M : XM) : Nat := M.2.2.2.2.2.1
abbrev xm_k (M : XM) : Nat := M.2.2.2.2.2.2.1
abbrev xm_n (M : XM) : Nat := M.2.2.2.2.2.2.2.1
abbrev xm_i (M : XM) : Nat := M.2.2.2.2.2.2.2.2.1
abbrev xm_t (M : XM) : List (List (Option XE)) := M.2.2.2.2.2.2.2.2.2
abbrev XF : Type := Nat → List XV → XW → Option (Option XV × XW)
def xi (z : Int) : XV := .inl (z, z)
def xtop : Int × Int := (-2147483648, 2147483647)
def xcat : XV → Nat
  | .inl _ => 1
  | .inr (.inl _) => 2
  | .inr (.inr _) => 1
def xkd : XV → Nat
  | .inl _ => 0
  | .inr (.inl _) => 1
  | .inr (.inr _) => 2
def xk_get : XL → Nat → Option XV
  | [], _ => none
  | q :: l, i => if q.1 = i then some q.2 else xk_get l i
def xk_set1 (l : XL) (i : Nat) (v : XV) : XL := (i, v) :: l.filter (fun q => !(q.1 == i) && !(q.1 + 1 == i && xcat q.2 == 2))
def xk_set2 (l : XL) (i : Nat) (v : XV) : XL := (i, v) :: l.filter (fun q => !(q.1 == i) && (!(q.1 == i + 1) && !(q.1 + 1 == i && xcat q.2 == 2)))
def xk_args : Nat → List XV → XL
  | _, [] => []
  | i, v :: vs => (i, v) :: xk_args (if xcat v = 2 then i + 2 else i + 1) vs
-- numbers
def xe2 (f : Int32 → Int32 → Int32) (p q : Int × Int) : Int × Int := if p.1 = p.2 ∧ q.1 = q.2 then ((f (Int32.ofInt p.1) (Int32.ofInt q.1)).toInt, (f (Int32.ofInt p.1) (Int32.ofInt q.1)).toInt) else xtop
def xe1 (f : Int32 → Int32) (p : Int × Int) : Int × Int := if p.1 = p.2 then ((f (Int32.ofInt p.1)).toInt, (f (Int32.ofInt p.1)).toInt) else xtop
def xadd (p q : Int × Int) : Int × Int := if -2147483648 ≤ p.1 + q.1 ∧ p.2 + q.2 ≤ 2147483647 then (p.1 + q.1, p.2 + q.2) else xe2 (fun x y => x + y) p q
def xsub (p q : Int × Int) : Int × Int := if -2147483648 ≤ p.1 - q.2 ∧ p.2 - q.1 ≤ 2147483647 then (p.1 - q.2, p.2 - q.1) else xe2 (fun x y => x - y) p q
def xl2 (f : Int64 → Int64 → Int64) : Option Int → Option Int → Option Int
  | some a, some b => some (f (Int64.ofInt a) (Int64.ofInt b)).toInt
  | _, _ => none
def xls (f : Int64 → Int32 → Int64) : Option Int → Int × Int → Option Int
  | some a, q => if q.1 = q.2 then some (f (Int64.ofInt a) (Int32.ofInt q.1)).toInt else if a = 0 then some 0 else none
  | none, _ => none
def xlt (p q : Int × Int) : Option Bool := if p.2 < q.1 then some true else if q.2 ≤ p.1 then some false else none
def xeq (p q : Int × Int) : Option Bool := if p.1 = p.2 ∧ q.1 = q.2 ∧ p.1 = q.1 then some true else if p.2 < q.1 ∨ q.2 < p.1 then some false else none
def xno : Option Bool → Option Bool
  | some true => some false
  | some false => some true
  | none => none
def xcmp : ClassFile.Cond → Int × Int → Int × Int → Option Bool
  | .eq, p, q => xeq p q
  | .ne, p, q => xno (xeq p q)
  | .lt, p, q => xlt p q
  | .ge, p, q => xno (xlt p q)
  | .gt, p, q => xlt q p
  | .le, p, q => xno (xlt q p)
-- arrays
def xh2 : XV → XV → Option XV
  | .inl p, .inl q => some (.inl (if p.1 ≤ q.1 then p.1 else q.1, if p.2 ≤ q.2 then q.2 else p.2))
  | .inr (.inl a), .inr (.inl b) => some (.inr (.inl (if a = b then a else none)))
  | .inr (.inr a), .inr (.inr b) => if a = b then some (.inr (.inr a)) else none
  | _, _ => none
def xhull : List XV → Option XV
  | [] => none
  | x :: l => match l with
    | [] => some x
    | _ :: _ => match xhull l with
      | some y => xh2 x y
      | none => none
def xread (es : List XV) (q : Int × Int) : Option XV := if 0 ≤ q.1 ∧ q.2 < es.length then (if q.1 = q.2 then es[q.1.toNat]? else xhull ((es.drop q.1.toNat).take (q.2.toNat + 1 - q.1.toNat))) else none
def xwr (v : XV) : List XV → Nat → Nat → Option (List XV)
  | [], _, _ => some []
  | y :: l, i + 1, k => match xwr v l i k with
    | some l' => some (y :: l')
    | none => none
  | y :: l, 0, k + 1 => match xh2 y v, xwr v l 0 k with
    | some z, some l' => some (z :: l')
    | _, _ => none
  | l, 0, 0 => some l
def xwrite (es : List XV) (q : Int × Int) (v : XV) : Option (List XV) := if 0 ≤ q.1 ∧ q.2 < es.length then (if q.1 = q.2 then some (es.set q.1.toNat v) else xwr v es q.1.toNat (q.2.toNat + 1 - q.1.toNat)) else none
def xdef : FieldType → Option XV
  | .int => some (xi 0)
  | .boolean => some (xi 0)
  | .long => some (.inr (.inl (some 0)))
  | .object _ => some (.inr (.inr (0, 0)))
  | .array _ => some (.inr (.inr (0, 0)))
  | _ => none
def xfit : FieldType → XV → Bool
  | .int, .inl _ => true
  | .long, .inr (.inl _) => true
  | .object _, .inr (.inr _) => true
  | .array _, .inr (.inr _) => true
  | _, _ => false
def xfetch (t : List (List (Option XE))) (pc : Nat) : Option XE := match t[pc / 16]? with
  | some r => (match r[pc % 16]? with
    | some o => o
    | none => none)
  | none => none
-- the instructions' families
def xh_push (d : Nat) (v : XV) (pc : Nat) (lv : XL) (st : List XV) (w : XW) (k n : Nat) : Option XR := some (.inl (pc + d, lv, v :: st, w, k, n))
def xh_load (kd d j : Nat) (pc : Nat) (lv : XL) (st : List XV) (w : XW) (k n : Nat) : Option XR := match xk_get lv j with
  | some x => if xkd x = kd then some (.inl (pc + d, lv, x :: st, w, k, n)) else none
  | none => none
def xh_store (kd d j nL : Nat) (pc : Nat) (lv : XL) (st : List XV) (w : XW) (k n : Nat) : Option XR := match st with
  | x :: r => if xkd x = kd ∧ j < nL then some (.inl (pc + d, xk_set1 lv j x, r, w, k, n)) else none
  | [] => none
def xh_store2 (d j nL : Nat) (pc : Nat) (lv : XL) (st : List XV) (w : XW) (k n : Nat) : Option XR := match st with
  | x :: r => if xkd x = 1 ∧ j + 1 < nL then some (.inl (pc + d, xk_set2 lv j x, r, w, k, n)) else none
  | [] => none
def xh_iinc (j nL : Nat) (z : Int) (pc : Nat) (lv : XL) (st : List XV) (w : XW) (k n : Nat) : Option XR := match xk_get lv j with
  | some (.inl q) => if j < nL then some (.inl (pc + 3, xk_set1 lv j (.inl (xadd q (z, z))), st, w, k, n)) else none
  | _ => none
def xh_bin (f : Int × Int → Int × Int → Int × Int) (pc : Nat) (lv : XL) (st : List XV) (w : XW) (k n : Nat) : Option XR := match st with
  | .inl q :: .inl p :: r => some (.inl (pc + 1, lv, .inl (f p q) :: r, w, k, n))
  | _ => none
def xh_div (f : Int × Int → Int × Int → Int × Int) (pc : Nat) (lv : XL) (st : List XV) (w : XW) (k n : Nat) : Option XR := match st with
  | .inl q :: .inl p :: r => if 0 < q.1 ∨ q.2 < 0 then some (.inl (pc + 1, lv, .inl (f p q) :: r, w, k, n)) else none
  | _ => none
def xh_un (f : Int × Int → Int × Int) (pc : Nat) (lv : XL) (st : List XV) (w : XW) (k n : Nat) : Option XR := match st with
  | .inl p :: r => some (.inl (pc + 1, lv, .inl (f p) :: r, w, k, n))
  | _ => none
def xh_lneg (pc : Nat) (lv : XL) (st : List XV) (w : XW) (k n : Nat) : Option XR := match st with
  | .inr (.inl (some a)) :: r => some (.inl (pc + 1, lv, .inr (.inl (some (-(Int64.ofInt a)).toInt)) :: r, w, k, n))
  | .inr (.inl none) :: r => some (.inl (pc + 1, lv, .inr (.inl none) :: r, w, k, n))
  | _ => none
def xh_lbin (f : Option Int → Option Int → Option Int) (pc : Nat) (lv : XL) (st : List XV) (w : XW) (k n : Nat) : Option XR := match st with
  | .inr (.inl q) :: .inr (.inl p) :: r => some (.inl (pc + 1, lv, .inr (.inl (f p q)) :: r, w, k, n))
  | _ => none
def xh_lsh (f : Option Int → Int × Int → Option Int) (pc : Nat) (lv : XL) (st : List XV) (w : XW) (k n : Nat) : Option XR := match st with
  | .inl q :: .inr (.inl p) :: r => some (.inl (pc + 1, lv, .inr (.inl (f p q)) :: r, w, k, n))
  | _ => none
def xh_i2l (pc : Nat) (lv : XL) (st : List XV) (w : XW) (k n : Nat) : Option XR := match st with
  | .inl q :: r => some (.inl (pc + 1, lv, .inr (.inl (if q.1 = q.2 then some q.1 else none)) :: r, w, k, n))
  | _ => none
def xh_l2i (pc : Nat) (lv : XL) (st : List XV) (w : XW) (k n : Nat) : Option XR := match st with
  | .inr (.inl (some a)) :: r => some (.inl (pc + 1, lv, xi (Int64.ofInt a).toInt32.toInt :: r, w, k, n))
  | .inr (.inl none) :: r => some (.inl (pc + 1, lv, .inl xtop :: r, w, k, n))
  | _ => none
def xh_lcmp (pc : Nat) (lv : XL) (st : List XV) (w : XW) (k n : Nat) : Option XR := match st with
  | .inr (.inl (some b)) :: .inr (.inl (some a)) :: r => some (.inl (pc + 1, lv, xi (if a < b then -1 else if a = b then 0 else 1) :: r, w, k, n))
  | .inr (.inl _) :: .inr (.inl _) :: r => some (.inl (pc + 1, lv, .inl (-1, 1) :: r, w, k, n))
  | _ => none
def xh_dup (pc : Nat) (lv : XL) (st : List XV) (w : XW) (k n : Nat) : Option XR := match st with
  | x :: r => if xcat x = 1 then some (.inl (pc + 1, lv, x :: x :: r, w, k, n)) else none
  | _ => none
def xh_dup2 (pc : Nat) (lv : XL) (st : List XV) (w : XW) (k n : Nat) : Option XR := match st with
  | x :: r => if xcat x = 2 then some (.inl (pc + 1, lv, x :: x :: r, w, k, n)) else (match r with
    | y :: r2 => if xcat y = 1 then some (.inl (pc + 1, lv, x :: y :: x :: y :: r2, w, k, n)) else none
    | [] => none)
  | [] => none
def xh_br (o : Option Bool) (tgt : Nat) (pc : Nat) (lv : XL) (st : List XV) (w : XW) (k n : Nat) : Option XR := match o with
  | some true => some (.inl (tgt, lv, st, w, k, n))
  | some false => some (.inl (pc + 3, lv, st, w, k, n))
  | none => none
def xh_if (c : ClassFile.Cond) (tgt : Nat) (pc : Nat) (lv : XL) (st : List XV) (w : XW) (k n : Nat) : Option XR := match st with
  | .inl p :: r => xh_br (xcmp c p (0, 0)) tgt pc lv r w k n
  | _ => none
def xh_icmp (c : ClassFile.Cond) (tgt : Nat) (pc : Nat) (lv : XL) (st : List XV) (w : XW) (k n : Nat) : Option XR := match st with
  | .inl q :: .inl p :: r => xh_br (xcmp c p q) tgt pc lv r w k n
  | _ => none
def xh_null (neg : Bool) (tgt : Nat) (pc : Nat) (lv : XL) (st : List XV) (w : XW) (k n : Nat) : Option XR := match st with
  | .inr (.inr q) :: r => if (q.1 == 0) == neg then some (.inl (pc + 3, lv, r, w, k, n)) else some (.inl (tgt, lv, r, w, k, n))
  | _ => none
def xh_goto (tgt : Nat) (lv : XL) (st : List XV) (w : XW) (k n : Nat) : Option XR := some (.inl (tgt, lv, st, w, k, n))
def xh_table (dflt lo hi : Int) (offs : Array Int) (pc : Nat) (lv : XL) (st : List XV) (w : XW) (k n : Nat) : Option XR := match st with
  | .inl q :: r => if q.2 < lo ∨ hi < q.1 then (if 0 ≤ (pc : Int) + dflt then some (.inl (((pc : Int) + dflt).toNat, lv, r, w, k, n)) else none) else if q.1 = q.2 then (match offs[(q.1 - lo).toNat]? with
    | some off => if 0 ≤ (pc : Int) + off then some (.inl (((pc : Int) + off).toNat, lv, r, w, k, n)) else none
    | none => none) else none
  | _ => none
/-- an array's type, its places -/
def xarr (w : XW) (exc : List (List XV)) (q : Nat × Nat) : Option (Nat × List XV) := if q.1 = 1 then (match w[q.2]? with
  | some (.inr x) => some x
  | _ => none) else if q.1 = 2 then (match exc[q.2]? with
  | some es => some (0, es)
  | none => none) else none
def xh_ald (ty kd : Nat) (exc : List (List XV)) (pc : Nat) (lv : XL) (st : List XV) (w : XW) (k n : Nat) : Option XR := match st with
  | .inl i :: .inr (.inr q) :: r => (match xarr w exc q with
    | some (t, es) => if (ty = t ∨ (ty = 3 ∧ 3 ≤ t)) then (match xread es i with
      | some x => if xkd x = kd then some (.inl (pc + 1, lv, x :: r, w, k, n)) else none
      | none => none) else none
    | none => none)
  | _ => none
def xh_ast (ty kd : Nat) (pc : Nat) (lv : XL) (st : List XV) (w : XW) (k n : Nat) : Option XR := match st with
  | x :: .inl i :: .inr (.inr q) :: r => if q.1 = 1 ∧ xkd x = kd then (match w[q.2]? with
    | some (.inr (t, es)) => if ty = t then (match xwrite es i x with
      | some es' => some (.inl (pc + 1, lv, r, w.set q.2 (.inr (t, es')), k, n))
      | none => none) else none
    | _ => none) else none
  | _ => none
def xbool : XV → Bool
  | .inl q => decide (0 ≤ q.1 ∧ q.2 ≤ 1)
  | _ => false
def xh_zst (pc : Nat) (lv : XL) (st : List XV) (w : XW) (k n : Nat) : Option XR := match st with
  | x :: _ => if xbool x then xh_ast 2 0 pc lv st w k n else none
  | _ => none
/-- a cell into an array of references: the class that the array's type names -/
def xh_aast (tc : Nat → Option Nat) (pc : Nat) (lv : XL) (st : List XV) (w : XW) (k n : Nat) : Option XR := match st with
  | .inr (.inr v) :: .inl i :: .inr (.inr q) :: r => if q.1 = 1 ∧ v.1 = 1 ∧ i.1 = i.2 then (match w[q.2]?, w[v.2]? with
    | some (.inr (t, es)), some (.inl (c, _)) => if tc t = some c then (match xwrite es i (.inr (.inr v)) with
      | some es' => some (.inl (pc + 1, lv, r, w.set q.2 (.inr (t, es')), k, n))
      | none => none) else none
    | _, _ => none) else none
  | _ => none
def xh_alen (exc : List (List XV)) (pc : Nat) (lv : XL) (st : List XV) (w : XW) (k n : Nat) : Option XR := match st with
  | .inr (.inr q) :: r => (match xarr w exc q with
    | some (_, es) => if es.length < 2147483648 then some (.inl (pc + 1, lv, xi es.length :: r, w, k, n)) else none
    | none => none)
  | _ => none
def xh_newa (d t : Nat) (ty : Option FieldType) (mk mn : Nat) (pc : Nat) (lv : XL) (st : List XV) (w : XW) (k n : Nat) : Option XR := match st with
  | .inl q :: r => if q.1 = q.2 ∧ 0 ≤ q.1 ∧ q.1 < 1000 ∧ k + 1 ≤ mk ∧ n + q.1.toNat ≤ mn then (match ty with
    | some f => (match xdef f with
      | some v => some (.inl (pc + d, lv, .inr (.inr (1, w.length)) :: r, w ++ [.inr (t, List.replicate q.1.toNat v)], k + 1, n + q.1.toNat))
      | none => none)
    | none => none) else none
  | _ => none
def xh_new (c : Nat) (fs : Option (List XV)) (mk mn : Nat) (pc : Nat) (lv : XL) (st : List XV) (w : XW) (k n : Nat) : Option XR := match fs with
  | some fs => if k + 1 ≤ mk ∧ n + fs.length ≤ mn then some (.inl (pc + 3, lv, .inr (.inr (1, w.length)) :: st, w ++ [.inl (c, fs)], k + 1, n + fs.length)) else none
  | none => none
def xh_get (c f : Nat) (pc : Nat) (lv : XL) (st : List XV) (w : XW) (k n : Nat) : Option XR := match st with
  | .inr (.inr q) :: r => if q.1 = 1 then (match w[q.2]? with
    | some (.inl (c', fs)) => if c' = c then (match fs[f]? with
      | some v => some (.inl (pc + 3, lv, v :: r, w, k, n))
      | none => none) else none
    | _ => none) else none
  | _ => none
def xh_put (c f : Nat) (ty : Option FieldType) (pc : Nat) (lv : XL) (st : List XV) (w : XW) (k n : Nat) : Option XR := match st with
  | x :: .inr (.inr q) :: r => if q.1 = 1 then (match w[q.2]?, ty with
    | some (.inl (c', fs)), some t => if c' = c ∧ f < fs.length ∧ xfit t x = true then some (.inl (pc + 3, lv, r, w.set q.2 (.inl (c, fs.set f x)), k, n)) else none
    | _, _ => none) else none
  | _ => none
def xh_oinit (M : XM) (pc : Nat) (lv : XL) (st : List XV) (w : XW) (k n : Nat) : Option XR := match st with
  | .inr (.inr q) :: r => if q.1 = 1 ∧ 1 ≤ xm_f M ∧ (r.map xcat).sum + 12 ≤ xm_o M then some (.inl (pc + 3, lv, r, w, k, n)) else none
  | _ => none
/-- the receiver: a cell of that class -/
def xrecv (w : XW) (c : Nat) : List XV → Bool
  | .inr (.inr q) :: _ => q.1 == 1 && (match w[q.2]? with
    | some (.inl x) => x.1 == c
    | _ => false)
  | _ => false
def xh_call (cf : XF) (M : XM) (N : Option XM) (j na : Nat) (recv : Bool) (pc : Nat) (lv : XL) (st : List XV) (w : XW) (k n : Nat) : Option XR := match N with
  | some N => if na ≤ st.length ∧ ((st.drop na).map xcat).sum ≤ 8 ∧ xm_f N + 1 ≤ xm_f M ∧ 8 + (xm_l N + 11) + xm_o N ≤ xm_o M ∧ k + xm_k N ≤ xm_k M ∧ n + xm_n N ≤ xm_n M ∧ (!recv || xrecv w (xm_i N) (st.take na).reverse) = true then (match cf j (st.take na).reverse w with
    | some q => some (.inl (pc + 3, lv, q.1.toList ++ st.drop na, q.2, k + xm_k N, n + xm_n N))
    | none => none) else none
  | none => none
def xh_m2 (f : Int32 → Int32 → Int32) (M : XM) (pc : Nat) (lv : XL) (st : List XV) (w : XW) (k n : Nat) : Option XR := match st with
  | .inl q :: .inl p :: r => if 1 ≤ xm_f M ∧ (r.map xcat).sum + 13 ≤ xm_o M ∧ k ≤ xm_k M ∧ n ≤ xm_n M then some (.inl (pc + 3, lv, .inl (xe2 f p q) :: r, w, k, n)) else none
  | _ => none
def xh_m1 (f : Int32 → Int32) (M : XM) (pc : Nat) (lv : XL) (st : List XV) (w : XW) (k n : Nat) : Option XR := match st with
  | .inl p :: r => if 1 ≤ xm_f M ∧ (r.map xcat).sum + 13 ≤ xm_o M ∧ k ≤ xm_k M ∧ n ≤ xm_n M then some (.inl (pc + 3, lv, .inl (xe1 f p) :: r, w, k, n)) else none
  | _ => none
def xz : Option FieldType → Bool
  | some .boolean => true
  | _ => false
def xh_ret (kd : Nat) (ty : Option FieldType) (st : List XV) (w : XW) (k n : Nat) : Option XR := match st with
  | [x] => if xkd x = kd ∧ (!xz ty || xbool x) = true then some (.inr (some x, w, k, n)) else none
  | _ => none
def xh_retv (st : List XV) (w : XW) (k n : Nat) : Option XR := match st with
  | [] => some (.inr (none, w, k, n))
  | _ => none
def xins (cf : XF) (MT : Nat → Option XM) (FT : Nat → Nat → Option FieldType) (FD : Nat → Option (List XV)) (TY : Nat → Option FieldType) (TC : Nat → Option Nat) (exc : List (List XV)) (M : XM) (i : Instr) (a b : Nat) (z : Int) (pc : Nat) (lv : XL) (st : List XV) (w : XW) (k n : Nat) : Option XR := match i with
  | .iconst _ => xh_push 1 (xi z) pc lv st w k n
  | .bipush _ => xh_push 2 (xi z) pc lv st w k n
  | .sipush _ => xh_push 3 (xi z) pc lv st w k n
  | .ldc _ => xh_push 2 (xi z) pc lv st w k n
  | .ldc_w _ => xh_push 3 (xi z) pc lv st w k n
  | .lconst _ => xh_push 1 (.inr (.inl (some z))) pc lv st w k n
  | .ldc2_w _ => xh_push 3 (.inr (.inl (some z))) pc lv st w k n
  | .aconst_null => xh_push 1 (.inr (.inr (0, 0))) pc lv st w k n
  | .iload_n j => xh_load 0 1 j.val pc lv st w k n
  | .iload j => xh_load 0 2 j pc lv st w k n
  | .lload_n j => xh_load 1 1 j.val pc lv st w k n
  | .lload j => xh_load 1 2 j pc lv st w k n
  | .aload_n j => xh_load 2 1 j.val pc lv st w k n
  | .aload j => xh_load 2 2 j pc lv st w k n
  | .istore_n j => xh_store 0 1 j.val (xm_l M) pc lv st w k n
  | .istore j => xh_store 0 2 j (xm_l M) pc lv st w k n
  | .lstore_n j => xh_store2 1 j.val (xm_l M) pc lv st w k n
  | .lstore j => xh_store2 2 j (xm_l M) pc lv st w k n
  | .astore_n j => xh_store 2 1 j.val (xm_l M) pc lv st w k n
  | .astore j => xh_store 2 2 j (xm_l M) pc lv st w k n
  | .iinc j _ => xh_iinc j (xm_l M) z pc lv st w k n
  | .iadd => xh_bin xadd pc lv st w k n
  | .isub => xh_bin xsub pc lv st w k n
  | .imul => xh_bin (xe2 (fun x y => x * y)) pc lv st w k n
  | .iand => xh_bin (xe2 (fun x y => x &&& y)) pc lv st w k n
  | .ior => xh_bin (xe2 (fun x y => x ||| y)) pc lv st w k n
  | .ixor => xh_bin (xe2 (fun x y => x ^^^ y)) pc lv st w k n
  | .ishl => xh_bin (xe2 (fun x y => x <<< (y &&& 31))) pc lv st w k n
  | .ishr => xh_bin (xe2 (fun x y => x >>> (y &&& 31))) pc lv st w k n
  | .iushr => xh_bin (xe2 (fun x y => (x.toUInt32 >>> (y.toUInt32 &&& Int32.toUInt32 31)).toInt32)) pc lv st w k n
  | .idiv => xh_div (xe2 (fun x y => x / y)) pc lv st w k n
  | .irem => xh_div (xe2 (fun x y => x - x / y * y)) pc lv st w k n
  | .ineg => xh_un (xe1 (fun x => -x)) pc lv st w k n
  | .i2b => xh_un (xe1 (fun x => x.toInt8.toInt32)) pc lv st w k n
  | .lneg => xh_lneg pc lv st w k n
  | .ladd => xh_lbin (xl2 (fun x y => x + y)) pc lv st w k n
  | .lsub => xh_lbin (xl2 (fun x y => x - y)) pc lv st w k n
  | .lmul => xh_lbin (xl2 (fun x y => x * y)) pc lv st w k n
  | .land => xh_lbin (xl2 (fun x y => x &&& y)) pc lv st w k n
  | .lor => xh_lbin (xl2 (fun x y => x ||| y)) pc lv st w k n
  | .lxor => xh_lbin (xl2 (fun x y => x ^^^ y)) pc lv st w k n
  | .lshl => xh_lsh (xls (fun x y => x <<< (y.toInt64 &&& 63))) pc lv st w k n
  | .lshr => xh_lsh (xls (fun x y => x >>> (y.toInt64 &&& 63))) pc lv st w k n
  | .lushr => xh_lsh (xls (fun x y => (x.toUInt64 >>> (y.toInt64.toUInt64 &&& Int64.toUInt64 63)).toInt64)) pc lv st w k n
  | .i2l => xh_i2l pc lv st w k n
  | .l2i => xh_l2i pc lv st w k n
  | .lcmp => xh_lcmp pc lv st w k n
  | .dup => xh_dup pc lv st w k n
  | .dup2 => xh_dup2 pc lv st w k n
  | .ifCond c _ => xh_if c a pc lv st w k n
  | .if_icmp c _ => xh_icmp c a pc lv st w k n
  | .ifnull _ => xh_null false a pc lv st w k n
  | .ifnonnull _ => xh_null true a pc lv st w k n
  | .goto _ => xh_goto a lv st w k n
  | .tableswitch d lo hi offs => xh_table d lo hi offs pc lv st w k n
  | .iaload => xh_ald 0 0 exc pc lv st w k n
  | .laload => xh_ald 1 1 exc pc lv st w k n
  | .baload => xh_ald 2 0 exc pc lv st w k n
  | .aaload => xh_ald 3 2 exc pc lv st w k n
  | .iastore => xh_ast 0 0 pc lv st w k n
  | .lastore => xh_ast 1 1 pc lv st w k n
  | .bastore => xh_zst pc lv st w k n
  | .aastore => xh_aast TC pc lv st w k n
  | .arraylength => xh_alen exc pc lv st w k n
  | .newarray _ => xh_newa 2 a (TY a) (xm_k M) (xm_n M) pc lv st w k n
  | .anewarray _ => xh_newa 3 a (TY a) (xm_k M) (xm_n M) pc lv st w k n
  | .new _ => xh_new a (FD a) (xm_k M) (xm_n M) pc lv st w k n
  | .getfield _ => xh_get a b pc lv st w k n
  | .putfield _ => xh_put a b (FT a b) pc lv st w k n
  | .getstatic _ => xh_push 3 (.inr (.inr (2, a))) pc lv st w k n
  | .invokevirtual _ => xh_call cf M (MT a) a b true pc lv st w k n
  | .invokestatic _ => if a < 7000 then xh_call cf M (MT a) a b false pc lv st w k n else if a = 7000 then xh_m2 (fun x y => if x < y then y else x) M pc lv st w k n else if a = 7001 then xh_m2 (fun x y => if y < x then y else x) M pc lv st w k n else if a = 7002 then xh_m1 (fun x => if 0 ≤ x then x else 0 - x) M pc lv st w k n else none
  | .invokespecial _ => if a = 9999 then xh_oinit M pc lv st w k n else xh_call cf M (MT a) a b true pc lv st w k n
  | .ireturn => xh_ret 0 (xm_r M) st w k n
  | .lreturn => xh_ret 1 none st w k n
  | .areturn => xh_ret 2 none st w k n
  | .return_ => xh_retv st w k n
  | _ => none
end
section
/-! ===== linear forms over symbols, what is known of them ===== -/
abbrev YL : Type := Int × List (Nat × Int)
/-- what is known of a symbol: (0, lo, hi) an int between bounds; (1, kind, 1 if it may be null) a reference; (2, 1 if it isn't 0, _) a long; (3, _, _) null -/
abbrev YE : Type := Nat × Int × Int
def ysum (r : Nat → Int) : List (Nat × Int) → Int
  | [] => 0
  | q :: l => q.2 * r q.1 + ysum r l
def yev (r : Nat → Int) (x : YL) : Int := x.1 + ysum r x.2
def yins (s : Nat) (c : Int) : List (Nat × Int) → List (Nat × Int)
  | [] => if c = 0 then [] else [(s, c)]
  | q :: l => if q.1 = s then (if q.2 + c = 0 then l else (s, q.2 + c) :: l) else if s < q.1 then (if c = 0 then q :: l else (s, c) :: q :: l) else q :: yins s c l
def yapp (k : Int) : List (Nat × Int) → List (Nat × Int) → List (Nat × Int)
  | [], l => l
  | q :: m, l => yapp k m (yins q.1 (k * q.2) l)
/-- x + k * y -/
def yadd (x : YL) (k : Int) (y : YL) : YL := (x.1 + k * y.1, yapp k y.2 x.2)
def ycst (c : Int) : YL := (c, [])
def ysym (s : Nat) : YL := (0, [(s, 1)])
def yneg (x : YL) : YL := yadd (0, []) (-1) x
theorem yins_sum {r : Nat → Int} {s : Nat} {c : Int} : ∀ {l : List (Nat × Int)}, ysum r (yins s c l) = c * r s + ysum r l
  | [] => by
    unfold yins
    by_cases h : c = 0
    · rw [if_pos h, h, Int.zero_mul]
      rfl
    · rw [if_neg h]
      rfl
  | q :: l => by
    unfold yins
    by_cases h : q.1 = s
    · rw [if_pos h]
      subst h
      have e : (q.2 + c) * r q.1 = q.2 * r q.1 + c * r q.1 := Int.add_mul _ _ _
      by_cases h2 : q.2 + c = 0
      · rw [if_pos h2]
        show ysum r l = c * r q.1 + (q.2 * r q.1 + ysum r l)
        rw [h2, Int.zero_mul] at e
        omega
      · rw [if_neg h2]
        show (q.2 + c) * r q.1 + ysum r l = c * r q.1 + (q.2 * r q.1 + ysum r l)
        omega
    · rw [if_neg h]
      by_cases h2 : s < q.1
      · rw [if_pos h2]
        by_cases h3 : c = 0
        · rw [if_pos h3, h3, Int.zero_mul, Int.zero_add]
        · rw [if_neg h3]
          rfl
      · rw [if_neg h2]
        show q.2 * r q.1 + ysum r (yins s c l) = c * r s + (q.2 * r q.1 + ysum r l)
        rw [yins_sum (l := l)]
        omega
theorem yapp_sum {r : Nat → Int} {k : Int} : ∀ {m l : List (Nat × Int)}, ysum r (yapp k m l) = k * ysum r m + ysum r l
  | [], l => by
    show ysum r l = k * 0 + ysum r l
    rw [Int.mul_zero, Int.zero_add]
  | q :: m, l => by
    show ysum r (yapp k m (yins q.1 (k * q.2) l)) = k * (q.2 * r q.1 + ysum r m) + ysum r l
    rw [yapp_sum (m := m), yins_sum, Int.mul_add, Int.mul_assoc]
    omega
theorem yadd_ev {r : Nat → Int} {x y : YL} {k : Int} : yev r (yadd x k y) = yev r x + k * yev r y := by
  show x.1 + k * y.1 + ysum r (yapp k y.2 x.2) = x.1 + ysum r x.2 + k * (y.1 + ysum r y.2)
  rw [yapp_sum, Int.mul_add]
  omega
theorem ycst_ev {r : Nat → Int} {c : Int} : yev r (ycst c) = c := by
  show c + 0 = c
  omega
theorem ysym_ev {r : Nat → Int} {s : Nat} : yev r (ysym s) = r s := by
  show 0 + (1 * r s + 0) = r s
  omega
theorem yneg_ev {r : Nat → Int} {x : YL} : yev r (yneg x) = -yev r x := by
  unfold yneg
  rw [yadd_ev]
  show 0 + 0 + -1 * yev r x = -yev r x
  omega
/-- a lower bound by the symbols' bounds -/
def ylb (E : List YE) : List (Nat × Int) → Option Int
  | [] => some 0
  | q :: l => match E[q.1]?, ylb E l with
    | some (0, lo, hi), some t => some (t + if 0 ≤ q.2 then q.2 * lo else q.2 * hi)
    | _, _ => none
def yok (E : List YE) (r : Nat → Int) : Prop := ∀ (s : Nat) (lo hi : Int), E[s]? = some (0, lo, hi) → lo ≤ r s ∧ r s ≤ hi
theorem ylb_le {E : List YE} {r : Nat → Int} (hE : yok E r) : ∀ {l : List (Nat × Int)} {t : Int}, ylb E l = some t → t ≤ ysum r l
  | [], t, h => by
    cases h
    exact Int.le_refl _
  | q :: l, t, h => by
    unfold ylb at h
    split at h
    · rename_i lo hi t2 h1 h2
      cases h
      have ih := ylb_le hE h2
      have hb := hE q.1 lo hi h1
      show t2 + (if 0 ≤ q.2 then q.2 * lo else q.2 * hi) ≤ q.2 * r q.1 + ysum r l
      by_cases hq : 0 ≤ q.2
      · rw [if_pos hq]
        have := Int.mul_le_mul_of_nonneg_left hb.1 hq
        omega
      · rw [if_neg hq]
        have := Int.mul_le_mul_of_nonpos_left (show q.2 ≤ 0 by omega) hb.2
        omega
    · cases h
def ynn (E : List YE) (x : YL) : Bool := match ylb E x.2 with
  | some t => decide (0 ≤ x.1 + t)
  | none => false
theorem ynn_ok {E : List YE} {r : Nat → Int} (hE : yok E r) {x : YL} (h : ynn E x = true) : 0 ≤ yev r x := by
  unfold ynn at h
  split at h
  · rename_i t ht
    have h1 := of_decide_eq_true h
    have h2 := ylb_le hE ht
    show 0 ≤ x.1 + ysum r x.2
    omega
  · cases h
/-- by how much a fact is to be taken so that a symbol goes -/
def ymul1 (f : List (Nat × Int)) (q : Nat × Int) : List Int := match f.find? (fun p => p.1 == q.1) with
  | some p => if p.2 ≠ 0 ∧ q.2 % p.2 = 0 ∧ 0 < q.2 / p.2 then [q.2 / p.2] else []
  | none => []
def ymul (x f : List (Nat × Int)) : List Int := (x.map (ymul1 f)).flatten
/-- 0 ≤ x by bounds and at most d facts -/
def ypr (E : List YE) (F : List YL) : Nat → YL → Bool
  | 0, x => ynn E x
  | d + 1, x => ynn E x || F.any (fun f => (ymul x.2 f.2).any (fun m => decide (0 ≤ m) && ypr E F d (yadd x (-m) f)))
theorem ypr_ok {E : List YE} {F : List YL} {r : Nat → Int} (hE : yok E r) (hF : ∀ f ∈ F, 0 ≤ yev r f) : ∀ {d : Nat} {x : YL}, ypr E F d x = true → 0 ≤ yev r x
  | 0, x, h => ynn_ok hE h
  | d + 1, x, h => by
    unfold ypr at h
    rw [Bool.or_eq_true] at h
    rcases h with h | h
    · exact ynn_ok hE h
    · obtain ⟨f, hf, h⟩ := List.any_eq_true.mp h
      obtain ⟨m, _, h⟩ := List.any_eq_true.mp h
      rw [Bool.and_eq_true] at h
      have h1 := of_decide_eq_true h.1
      have h2 := ypr_ok hE hF h.2
      rw [yadd_ev] at h2
      have h3 := Int.mul_nonneg h1 (hF f hf)
      have h4 : -m * yev r f = -(m * yev r f) := Int.neg_mul _ _
      omega
end
section
/-! ===== values, what is known, kinds of cells ===== -/
/-- a value: an int as a linear form; a long as a linear form; (0, s) a symbol's, (1, _) any long, (2, _) null, (3, j) the row outside number j -/
abbrev YV : Type := YL ⊕ (YL ⊕ (Nat × Nat))
abbrev YR : Type := Nat → XV
def yi (r : YR) (s : Nat) : Int := match r s with
  | .inl q => q.1
  | _ => 0
def ylng (z : Int) : Prop := -9223372036854775808 ≤ z ∧ z ≤ 9223372036854775807
def yvin (r : YR) : YV → XV → Prop
  | .inl x, v => v = .inl (yev (yi r) x, yev (yi r) x) ∧ -2147483648 ≤ yev (yi r) x ∧ yev (yi r) x ≤ 2147483647
  | .inr (.inl x), v => v = .inr (.inl (some (yev (yi r) x))) ∧ ylng (yev (yi r) x)
  | .inr (.inr (0, s)), v => v = r s
  | .inr (.inr (1, _)), v => ∃ z, v = .inr (.inl (some z)) ∧ ylng z
  | .inr (.inr (2, _)), v => v = .inr (.inr (0, 0))
  | .inr (.inr (_, j)), v => v = .inr (.inr (2, j))
def ycat : YV → Nat
  | .inl _ => 1
  | .inr (.inl _) => 2
  | .inr (.inr (1, _)) => 2
  | _ => 1
/-- kinds: of an object its class and what each field may be (one of several), of an array its type, its length and what a place may be -/
abbrev YK : Type := (Nat × List (List YE)) ⊕ (Nat × Nat × List YE)
def yein (ks : List Nat) (e : YE) (v : XV) : Prop := match e with
  | (0, lo, hi) => ∃ z, v = .inl (z, z) ∧ lo ≤ z ∧ z ≤ hi ∧ -2147483648 ≤ z ∧ z ≤ 2147483647
  | (1, k, n) => (n = 1 ∧ v = .inr (.inr (0, 0))) ∨ ∃ i, v = .inr (.inr (1, i)) ∧ ks[i]? = some k.toNat
  | (2, n, _) => ∃ z, v = .inr (.inl (some z)) ∧ ylng z ∧ (n = 1 → z ≠ 0)
  | _ => v = .inr (.inr (0, 0))
def yany (ks : List Nat) (es : List YE) (v : XV) : Prop := ∃ e, e ∈ es ∧ yein ks e v
def ycell (ks : List Nat) : YK → XC → Prop
  | .inl d, .inl c => c.1 = d.1 ∧ c.2.length = d.2.length ∧ ∀ (f : Nat) (es : List YE) (v : XV), d.2[f]? = some es → c.2[f]? = some v → yany ks es v
  | .inr d, .inr c => c.1 = d.1 ∧ c.2.length = d.2.1 ∧ ∀ (i : Nat) (v : XV), c.2[i]? = some v → yany ks d.2.2 v
  | _, _ => False
def yheap (KD : Nat → Option YK) (ks : List Nat) (w : XW) : Prop := w.length = ks.length ∧ ∀ (i k : Nat), ks[i]? = some k → ∃ d c, KD k = some d ∧ w[i]? = some c ∧ ycell ks d c
-- a field, a place
theorem yheap_f {KD : Nat → Option YK} {ks : List Nat} {w : XW} (h : yheap KD ks w) {i k : Nat} (hk : ks[i]? = some k) {cl : Nat} {fa : List (List YE)} (hd : KD k = some (.inl (cl, fa))) : ∃ fs, w[i]? = some (.inl (cl, fs)) ∧ fs.length = fa.length ∧ ∀ (f : Nat) (es : List YE) (v : XV), fa[f]? = some es → fs[f]? = some v → yany ks es v := by
  obtain ⟨d, c, h1, h2, h3⟩ := h.2 i k hk
  rw [hd] at h1
  cases h1
  match c, h2, h3 with
  | .inl (c', fs), h2, h3 =>
    obtain ⟨a1, a2, a3⟩ := h3
    dsimp only at a1 a2 a3
    subst a1
    exact ⟨fs, h2, a2, a3⟩
theorem yheap_a {KD : Nat → Option YK} {ks : List Nat} {w : XW} (h : yheap KD ks w) {i k : Nat} (hk : ks[i]? = some k) {t n : Nat} {ea : List YE} (hd : KD k = some (.inr (t, n, ea))) : ∃ es, w[i]? = some (.inr (t, es)) ∧ es.length = n ∧ ∀ (j : Nat) (v : XV), es[j]? = some v → yany ks ea v := by
  obtain ⟨d, c, h1, h2, h3⟩ := h.2 i k hk
  rw [hd] at h1
  cases h1
  match c, h2, h3 with
  | .inr (t', es), h2, h3 =>
    obtain ⟨a1, a2, a3⟩ := h3
    dsimp only at a1 a2 a3
    subst a1
    exact ⟨es, h2, a2, a3⟩
theorem yheap_setf {KD : Nat → Option YK} {ks : List Nat} {w : XW} (h : yheap KD ks w) {i k : Nat} (hk : ks[i]? = some k) {cl : Nat} {fa : List (List YE)} (hd : KD k = some (.inl (cl, fa))) {fs : List XV} (hw : w[i]? = some (.inl (cl, fs))) {f : Nat} {es : List YE} {v : XV} (hf : fa[f]? = some es) (hv : yany ks es v) : yheap KD ks (w.set i (.inl (cl, fs.set f v))) := by
  have hi : i < w.length := (List.getElem?_eq_some_iff.mp hw).1
  obtain ⟨fs', e1, e2, e3⟩ := yheap_f h hk hd
  rw [hw] at e1
  cases e1
  refine ⟨by rw [List.length_set]; exact h.1, fun j k' hk' => ?_⟩
  by_cases hj : i = j
  · subst hj
    rw [hk] at hk'
    cases hk'
    refine ⟨_, _, hd, List.getElem?_set_self hi, rfl, by rw [List.length_set]; exact e2, fun g eg u hg hu => ?_⟩
    dsimp only at hu hg
    by_cases hgf : f = g
    · subst hgf
      rw [hf] at hg
      cases hg
      have hl : f < fs.length := by
        rw [e2]
        exact (List.getElem?_eq_some_iff.mp hf).1
      rw [List.getElem?_set_self hl] at hu
      cases hu
      exact hv
    · rw [List.getElem?_set_ne hgf] at hu
      exact e3 g eg u hg hu
  · obtain ⟨d, c, h1, h2, h3⟩ := h.2 j k' hk'
    exact ⟨d, c, h1, by rw [List.getElem?_set_ne hj]; exact h2, h3⟩
theorem yheap_seta {KD : Nat → Option YK} {ks : List Nat} {w : XW} (h : yheap KD ks w) {i k : Nat} (hk : ks[i]? = some k) {t n : Nat} {ea : List YE} (hd : KD k = some (.inr (t, n, ea))) {es : List XV} (hw : w[i]? = some (.inr (t, es))) {j : Nat} {v : XV} (hv : yany ks ea v) : yheap KD ks (w.set i (.inr (t, es.set j v))) := by
  have hi : i < w.length := (List.getElem?_eq_some_iff.mp hw).1
  obtain ⟨es', e1, e2, e3⟩ := yheap_a h hk hd
  rw [hw] at e1
  cases e1
  refine ⟨by rw [List.length_set]; exact h.1, fun j' k' hk' => ?_⟩
  by_cases hj : i = j'
  · subst hj
    rw [hk] at hk'
    cases hk'
    refine ⟨_, _, hd, List.getElem?_set_self hi, rfl, by rw [List.length_set]; exact e2, fun g u hu => ?_⟩
    dsimp only at hu
    by_cases hgj : j = g
    · subst hgj
      by_cases hl : j < es.length
      · rw [List.getElem?_set_self hl] at hu
        cases hu
        exact hv
      · rw [List.getElem?_eq_none (by rw [List.length_set]; omega)] at hu
        cases hu
    · rw [List.getElem?_set_ne hgj] at hu
      exact e3 g u hu
  · obtain ⟨d, c, h1, h2, h3⟩ := h.2 j' k' hk'
    exact ⟨d, c, h1, by rw [List.getElem?_set_ne hj]; exact h2, h3⟩
/-! ===== knowledge ===== -/
/-- symbols, facts (each 0 or more), fields that were read, places that were read, longs that were compared -/
abbrev YF : Type := List YE × List YL × List ((Nat × Nat) × YV) × List ((Nat × YL) × YV) × List (Nat × (YL × YL))
abbrev yf_e (K : YF) : List YE := K.1
abbrev yf_f (K : YF) : List YL := K.2.1
abbrev yf_m (K : YF) : List ((Nat × Nat) × YV) := K.2.2.1
abbrev yf_a (K : YF) : List ((Nat × YL) × YV) := K.2.2.2.1
abbrev yf_l (K : YF) : List (Nat × (YL × YL)) := K.2.2.2.2
/-- the sign of a comparison -/
def ysgn (a b : Int) : Int := if a < b then -1 else if a = b then 0 else 1
def yknow (ks : List Nat) (w : XW) (r : YR) (K : YF) : Prop :=
  (∀ (s : Nat) (e : YE), (yf_e K)[s]? = some e → yein ks e (r s)) ∧
  (∀ f ∈ yf_f K, 0 ≤ yev (yi r) f) ∧
  (∀ q ∈ yf_m K, ∃ i c fs x, r q.1.1 = .inr (.inr (1, i)) ∧ w[i]? = some (.inl (c, fs)) ∧ fs[q.1.2]? = some x ∧ yvin r q.2 x) ∧
  (∀ q ∈ yf_a K, ∃ i t es x, r q.1.1 = .inr (.inr (1, i)) ∧ w[i]? = some (.inr (t, es)) ∧ 0 ≤ yev (yi r) q.1.2 ∧ es[(yev (yi r) q.1.2).toNat]? = some x ∧ yvin r q.2 x) ∧
  (∀ q ∈ yf_l K, yi r q.1 = ysgn (yev (yi r) q.2.1) (yev (yi r) q.2.2))
theorem yknow.ok {ks : List Nat} {w : XW} {r : YR} {K : YF} (h : yknow ks w r K) : yok (yf_e K) (yi r) := fun s lo hi hs => by
  obtain ⟨z, e1, e2, e3, _⟩ := h.1 s (0, lo, hi) hs
  unfold yi
  rw [e1]
  exact ⟨e2, e3⟩
/-- 0 ≤ x by what is known -/
def yprv (K : YF) (x : YL) : Bool := ypr (yf_e K) (yf_f K) 2 x
theorem yprv_ok {ks : List Nat} {w : XW} {r : YR} {K : YF} (h : yknow ks w r K) {x : YL} (hp : yprv K x = true) : 0 ≤ yev (yi r) x := ypr_ok h.ok h.2.1 hp
-- valuations that differ behind the known symbols alone
def yext (n : Nat) (r r' : YR) : Prop := ∀ s, s < n → r' s = r s
def ylin (n : Nat) (x : YL) : Bool := x.2.all (fun q => decide (q.1 < n))
def yvok (n : Nat) : YV → Bool
  | .inl x => ylin n x
  | .inr (.inl x) => ylin n x
  | .inr (.inr (0, s)) => decide (s < n)
  | _ => true
theorem ysum_ext {n : Nat} {r r' : YR} (h : yext n r r') : ∀ {l : List (Nat × Int)}, l.all (fun q => decide (q.1 < n)) = true → ysum (yi r') l = ysum (yi r) l
  | [], _ => rfl
  | q :: l, hl => by
    rw [List.all_cons, Bool.and_eq_true] at hl
    show q.2 * yi r' q.1 + ysum (yi r') l = q.2 * yi r q.1 + ysum (yi r) l
    have h1 : yi r' q.1 = yi r q.1 := by
      unfold yi
      rw [h q.1 (of_decide_eq_true hl.1)]
    rw [h1, ysum_ext h hl.2]
theorem yev_ext {n : Nat} {r r' : YR} (h : yext n r r') {x : YL} (hx : ylin n x = true) : yev (yi r') x = yev (yi r) x := by
  show x.1 + ysum (yi r') x.2 = x.1 + ysum (yi r) x.2
  rw [ysum_ext h hx]
theorem yvin_ext {n : Nat} {r r' : YR} (h : yext n r r') : ∀ {v : YV} {x : XV}, yvok n v = true → yvin r v x → yvin r' v x
  | .inl x, u, hx, hv => by
    have hv : u = .inl (yev (yi r) x, yev (yi r) x) ∧ -2147483648 ≤ yev (yi r) x ∧ yev (yi r) x ≤ 2147483647 := hv
    show u = .inl (yev (yi r') x, yev (yi r') x) ∧ -2147483648 ≤ yev (yi r') x ∧ yev (yi r') x ≤ 2147483647
    rw [yev_ext h hx]
    exact hv
  | .inr (.inl x), u, hx, hv => by
    have hv : u = .inr (.inl (some (yev (yi r) x))) ∧ ylng (yev (yi r) x) := hv
    show u = .inr (.inl (some (yev (yi r') x))) ∧ ylng (yev (yi r') x)
    rw [yev_ext h hx]
    exact hv
  | .inr (.inr (0, s)), _, hx, hv => by
    have hv : _ = r s := hv
    show _ = r' s
    rw [h s (of_decide_eq_true hx)]
    exact hv
  | .inr (.inr (1, _)), _, _, hv => hv
  | .inr (.inr (2, _)), _, _, hv => hv
  | .inr (.inr (_ + 3, _)), _, _, hv => hv
end
section
/-! ===== states of the typed layer, what they stand for ===== -/
abbrev YS : Type := Nat × List (Nat × YV) × List YV × YF
/-- a state, or a method's answer with what is known there -/
abbrev YO : Type := YS ⊕ (Option YV × YF)
def ylvin (r : YR) : List (Nat × YV) → XL → Prop
  | [], l => l = []
  | q :: ys, l => ∃ v l', l = (q.1, v) :: l' ∧ yvin r q.2 v ∧ ylvin r ys l'
def ystin (r : YR) : List YV → List XV → Prop
  | [], l => l = []
  | q :: ys, l => ∃ v l', l = v :: l' ∧ yvin r q v ∧ ystin r ys l'
def ywfl (n : Nat) (lv : List (Nat × YV)) : Bool := lv.all (fun q => yvok n q.2)
def ywfs (n : Nat) (st : List YV) : Bool := st.all (yvok n)
def ywfk (n : Nat) (K : YF) : Bool := (yf_f K).all (ylin n) && ((yf_m K).all (fun q => decide (q.1.1 < n) && yvok n q.2) && ((yf_a K).all (fun q => decide (q.1.1 < n) && (ylin n q.1.2 && yvok n q.2)) && (yf_l K).all (fun q => decide (q.1 < n) && (ylin n q.2.1 && ylin n q.2.2))))
def ywf (Y : YS) : Bool := ywfl (yf_e Y.2.2.2).length Y.2.1 && (ywfs (yf_e Y.2.2.2).length Y.2.2.1 && ywfk (yf_e Y.2.2.2).length Y.2.2.2)
def ysat (KD : Nat → Option YK) (ks : List Nat) (w : XW) (r : YR) (Y : YS) (S : XS) : Prop := ∃ lv st, S = (Y.1, lv, st, w, 0, 0) ∧ ylvin r Y.2.1 lv ∧ ystin r Y.2.2.1 st ∧ yknow ks w r Y.2.2.2 ∧ yheap KD ks w
theorem ylvin_ext {n : Nat} {r r' : YR} (h : yext n r r') : ∀ {ys : List (Nat × YV)} {l : XL}, ywfl n ys = true → ylvin r ys l → ylvin r' ys l
  | [], _, _, hv => hv
  | q :: ys, _, hw, ⟨v, l', e, h1, h2⟩ => by
    have hw : (yvok n q.2 && ywfl n ys) = true := hw
    rw [Bool.and_eq_true] at hw
    exact ⟨v, l', e, yvin_ext h hw.1 h1, ylvin_ext h hw.2 h2⟩
theorem ystin_ext {n : Nat} {r r' : YR} (h : yext n r r') : ∀ {ys : List YV} {l : List XV}, ywfs n ys = true → ystin r ys l → ystin r' ys l
  | [], _, _, hv => hv
  | q :: ys, _, hw, ⟨v, l', e, h1, h2⟩ => by
    have hw : (yvok n q && ywfs n ys) = true := hw
    rw [Bool.and_eq_true] at hw
    exact ⟨v, l', e, yvin_ext h hw.1 h1, ystin_ext h hw.2 h2⟩
def yupd (r : YR) (n : Nat) (x : XV) : YR := fun s => if s = n then x else r s
theorem yupd_ext {r : YR} {n : Nat} {x : XV} : yext n r (yupd r n x) := fun s hs => by
  unfold yupd
  rw [if_neg (by omega)]
theorem yupd_at {r : YR} {n : Nat} {x : XV} : yupd r n x n = x := by
  unfold yupd
  rw [if_pos rfl]
/-- what is known, with one symbol more -/
theorem yknow_new {ks : List Nat} {w : XW} {r : YR} {K : YF} {e : YE} {x : XV} (h : yknow ks w r K) (hw : ywfk (yf_e K).length K = true) (he : yein ks e x) : yknow ks w (yupd r (yf_e K).length x) (yf_e K ++ [e], K.2) := by
  unfold ywfk at hw
  rw [Bool.and_eq_true, Bool.and_eq_true, Bool.and_eq_true] at hw
  obtain ⟨w1, w2, w3, w4⟩ := hw
  obtain ⟨h1, h2, h3, h4, h5⟩ := h
  have hx := yupd_ext (r := r) (n := (yf_e K).length) (x := x)
  refine ⟨fun s e' hs => ?_, fun f hf => ?_, fun q hq => ?_, fun q hq => ?_, fun q hq => ?_⟩
  · by_cases hl : s < (yf_e K).length
    · have hs : (yf_e K ++ [e])[s]? = some e' := hs
      rw [List.getElem?_append_left hl] at hs
      rw [hx s hl]
      exact h1 s e' hs
    · have hs : (yf_e K ++ [e])[s]? = some e' := hs
      rw [List.getElem?_append_right (by omega)] at hs
      by_cases h0 : s - (yf_e K).length = 0
      · rw [h0] at hs
        cases hs
        have : s = (yf_e K).length := by omega
        subst this
        rw [yupd_at]
        exact he
      · rw [List.getElem?_eq_none (by simp; omega)] at hs
        cases hs
  · rw [yev_ext hx (List.all_eq_true.mp w1 f hf)]
    exact h2 f hf
  · have hq2 := List.all_eq_true.mp w2 q hq
    rw [Bool.and_eq_true] at hq2
    obtain ⟨i, c, fs, y, a1, a2, a3, a4⟩ := h3 q hq
    exact ⟨i, c, fs, y, by rw [hx q.1.1 (of_decide_eq_true hq2.1)]; exact a1, a2, a3, yvin_ext hx hq2.2 a4⟩
  · have hq2 := List.all_eq_true.mp w3 q hq
    rw [Bool.and_eq_true, Bool.and_eq_true] at hq2
    obtain ⟨i, t, es, y, a1, a2, a3, a4, a5⟩ := h4 q hq
    rw [yev_ext hx hq2.2.1]
    exact ⟨i, t, es, y, by rw [hx q.1.1 (of_decide_eq_true hq2.1)]; exact a1, a2, a3, a4, yvin_ext hx hq2.2.2 a5⟩
  · have hq2 := List.all_eq_true.mp w4 q hq
    rw [Bool.and_eq_true, Bool.and_eq_true] at hq2
    have h6 := h5 q hq
    rw [yev_ext hx hq2.2.1, yev_ext hx hq2.2.2, ← h6]
    unfold yi
    rw [hx q.1 (of_decide_eq_true hq2.1)]
/-- a symbol's value -/
def ysv (e : YE) (n : Nat) : YV := if e.1 = 0 then .inl (ysym n) else .inr (.inr (0, n))
theorem ysv_in {ks : List Nat} {r : YR} {e : YE} {n : Nat} {x : XV} (h : yein ks e x) (hr : r n = x) : yvin r (ysv e n) x := by
  unfold ysv
  by_cases h0 : e.1 = 0
  · rw [if_pos h0]
    obtain ⟨a, lo, hi⟩ := e
    dsimp only at h0
    subst h0
    obtain ⟨z, e1, e2, e3, e4, e5⟩ := h
    have e6 : yi r n = z := by
      unfold yi
      rw [hr, e1]
    refine ⟨?_, ?_, ?_⟩
    · rw [ysym_ev, e6]
      exact e1
    · rw [ysym_ev, e6]
      exact e4
    · rw [ysym_ev, e6]
      exact e5
  · rw [if_neg h0]
    exact hr.symm
/-- a new symbol onto the stack, behind 'drop' values -/
def ynew (Y : YS) (d drop : Nat) (e : YE) : Option YS := if ywf Y = true then some (Y.1 + d, Y.2.1, ysv e (yf_e Y.2.2.2).length :: Y.2.2.1.drop drop, yf_e Y.2.2.2 ++ [e], Y.2.2.2.2) else none
theorem ystin_drop {r : YR} : ∀ {n : Nat} {ys : List YV} {l : List XV}, ystin r ys l → ystin r (ys.drop n) (l.drop n)
  | 0, _, _, h => by
    rw [List.drop_zero, List.drop_zero]
    exact h
  | n + 1, [], l, h => by
    have h : l = [] := h
    subst h
    rfl
  | n + 1, q :: ys, _, ⟨v, l', e, _, h2⟩ => by
    subst e
    exact ystin_drop (n := n) h2
theorem ywfs_drop {n k : Nat} {ys : List YV} (h : ywfs n ys = true) : ywfs n (ys.drop k) = true := List.all_eq_true.mpr (fun q hq => List.all_eq_true.mp h q (List.mem_of_mem_drop hq))
theorem ynew_ok {KD : Nat → Option YK} {ks : List Nat} {w : XW} {r : YR} {Y Y' : YS} {lv : XL} {st : List XV} {d drop : Nat} {e : YE} {x : XV} (h : ysat KD ks w r Y (Y.1, lv, st, w, 0, 0)) (hn : ynew Y d drop e = some Y') (he : yein ks e x) : ysat KD ks w (yupd r (yf_e Y.2.2.2).length x) Y' (Y.1 + d, lv, x :: st.drop drop, w, 0, 0) := by
  unfold ynew at hn
  by_cases hw : ywf Y = true
  · rw [if_pos hw] at hn
    cases hn
    unfold ywf at hw
    rw [Bool.and_eq_true, Bool.and_eq_true] at hw
    obtain ⟨w1, w2, w3⟩ := hw
    obtain ⟨lv', st', e0, h1, h2, h3, h4⟩ := h
    cases e0
    have hx := yupd_ext (r := r) (n := (yf_e Y.2.2.2).length) (x := x)
    exact ⟨lv, x :: st.drop drop, rfl, ylvin_ext hx w1 h1, ⟨x, _, rfl, ysv_in he yupd_at, ystin_ext hx (ywfs_drop w2) (ystin_drop h2)⟩, yknow_new h3 w3 he, h4⟩
  · rw [if_neg hw] at hn
    cases hn
end
