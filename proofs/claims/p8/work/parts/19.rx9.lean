/-! ===== runs of the law ===== -/
def xov : XF := fun _ _ _ => none
abbrev xcf (fu : Nat) (sc : List XV) : XF := xcall xMT xFT xFD xTY xTC (xSTX ++ [sc]) xov fu 8
abbrev xlst (fu : Nat) (sc : List XV) : XS → Option XR := xstep (xcf fu sc) xMT xFT xFD xTY xTC (xSTX ++ [sc]) xmL
/-- the law comes to its end with 1 -/
def xend : Option XR → Bool
  | some (.inr q) => (match q.1 with
    | some (.inl z) => decide (z = (1, 1))
    | _ => false) && decide (q.2.2.1 ≤ 600000 ∧ q.2.2.2 ≤ 7302250)
  | _ => false
def xgoodf (fu : Nat) (sc : List XV) (S : XS) : Bool := xend (xrun (xlst fu sc) fu S)
abbrev xgood (sc : List XV) (S : XS) : Bool := xgoodf 20 sc S
def xsteps (f : XS → Option XR) : Nat → XS → Option XS
  | 0, S => some S
  | n + 1, S => match f S with
    | some (.inl S') => xsteps f n S'
    | _ => none
theorem xsteps_ok {f : XS → Option XR} {P : XR → Prop} (hf : ∀ S r, f S = some r → P r → P (.inl S)) : ∀ (n : Nat) (S S' : XS), xsteps f n S = some S' → P (.inl S') → P (.inl S)
  | 0, S, S', h, hr => by
    cases h
    exact hr
  | n + 1, S, S', h, hr => by
    unfold xsteps at h
    cases h1 : f S with
    | none => rw [h1] at h; cases h
    | some q =>
      rw [h1] at h
      match q, h, h1 with
      | .inl S2, h, h1 => exact hf S _ h1 (xsteps_ok hf n S2 S' h hr)
      | .inr _, h, _ => cases h
-- bounds that cover all ints
def xcov {β : Type} : Int → List ((Int × Int) × β) → Bool
  | lo, [] => decide (2147483647 < lo)
  | lo, q :: l => decide (q.1.1 ≤ lo) && xcov (q.1.2 + 1) l
theorem xcov_in {β : Type} : ∀ {lo : Int} {l : List ((Int × Int) × β)} {z : Int}, xcov lo l = true → lo ≤ z → z ≤ 2147483647 → ∃ q ∈ l, q.1.1 ≤ z ∧ z ≤ q.1.2
  | lo, [], z, h, h1, h2 => by
    have h : decide (2147483647 < lo) = true := h
    have := of_decide_eq_true h
    omega
  | lo, q :: l, z, h, h1, h2 => by
    have h : (decide (q.1.1 ≤ lo) && xcov (q.1.2 + 1) l) = true := h
    rw [Bool.and_eq_true] at h
    have ha := of_decide_eq_true h.1
    by_cases hz : z ≤ q.1.2
    · exact ⟨q, List.mem_cons_self, by omega, hz⟩
    · obtain ⟨q2, m2, b2⟩ := xcov_in h.2 (show q.1.2 + 1 ≤ z by omega) h2
      exact ⟨q2, List.mem_cons_of_mem _ m2, b2⟩
abbrev XB1 : Type := List ((Int × Int) × Unit)
abbrev XB2 : Type := List ((Int × Int) × XB1)
abbrev XB3 : Type := List ((Int × Int) × XB2)
abbrev XB4 : Type := List ((Int × Int) × XB3)
abbrev XB5 : Type := List ((Int × Int) × XB4)
def xchk {β : Type} (l : List ((Int × Int) × β)) (f : Int × Int → β → Bool) : Bool := xcov (-2147483648) l && l.all (fun q => f q.1 q.2)
theorem xchk_in {β : Type} {l : List ((Int × Int) × β)} {f : Int × Int → β → Bool} (h : xchk l f = true) (z : Int32) : ∃ q b, f q b = true ∧ q.1 ≤ z.toInt ∧ z.toInt ≤ q.2 := by
  unfold xchk at h
  rw [Bool.and_eq_true] at h
  obtain ⟨q, m, b1, b2⟩ := xcov_in h.1 (x_rng z).1 (x_rng z).2
  exact ⟨q.1, q.2, List.all_eq_true.mp h.2 q m, b1, b2⟩
def xchk5 (l : XB5) (f : List XV → Bool) : Bool := xchk l (fun q1 l => xchk l (fun q2 l => xchk l (fun q3 l => xchk l (fun q4 l => xchk l (fun q5 _ => f [.inl xtop, .inl q1, .inl q2, .inl q3, .inl q4, .inl q5])))))
theorem xchk5_in {l : XB5} {f : List XV → Bool} (h : xchk5 l f = true) (xs : Nat → Int32) : ∃ sc : List XV, f sc = true ∧ sc.length = 6 ∧ ∀ (i : Nat) (x : XV), sc[i]? = some x → xv_in [] [] x (.int (xs i)) := by
  obtain ⟨q1, l1, h, a1⟩ := xchk_in h (xs 1)
  obtain ⟨q2, l2, h, a2⟩ := xchk_in h (xs 2)
  obtain ⟨q3, l3, h, a3⟩ := xchk_in h (xs 3)
  obtain ⟨q4, l4, h, a4⟩ := xchk_in h (xs 4)
  obtain ⟨q5, l5, h, a5⟩ := xchk_in h (xs 5)
  refine ⟨_, h, rfl, fun i x hx => ?_⟩
  match i, hx with
  | 0, hx => cases hx; exact ⟨xs 0, rfl, x_rng _⟩
  | 1, hx => cases hx; exact ⟨xs 1, rfl, a1⟩
  | 2, hx => cases hx; exact ⟨xs 2, rfl, a2⟩
  | 3, hx => cases hx; exact ⟨xs 3, rfl, a3⟩
  | 4, hx => cases hx; exact ⟨xs 4, rfl, a4⟩
  | 5, hx => cases hx; exact ⟨xs 5, rfl, a5⟩
  | i + 6, hx => simp at hx
section XLW
variable {p : Program} {l : Launch} {e : Env} {s : State} {m : MethodId} {below : List Frame} {meth : Method} {c : Code} {b L : Nat} {xs : Nat → Int32} {D : va_G} {tA : Nat → ClassId} {ex : List Nat} {sc : List XV} {fu : Nat}
abbrev XLS (p : Program) (l : Launch) (e : Env) (s : State) (m : MethodId) (b : Nat) (below : List Frame) (meth : Method) (c : Code) (D : va_G) (tA : Nat → ClassId) (ex : List Nat) : XR → Prop := XRs p l e room_1 s m #[Value.ref b] below meth c (lw_Z below #[Value.ref b] s) code 4 D vwCl tA (fun q : Nat => s.heap.size ≤ q) [] ex (some .boolean)
set_option maxHeartbeats 4000000 in
theorem xlaw_step (C0 : lw_At p s m meth c b L xs) (hE : XEnv D vwCl (tysX tA) ex (xSTX ++ [sc]) xSV xNW xNF (fun q : Nat => s.heap.size ≤ q) s) : ∀ S r, xlst fu sc S = some r → XLS p l e s m b below meth c D tA ex r → XLS p l e s m b below meth c D tA ex (.inl S) := by
  obtain ⟨hx, hb, hr, hml, hown, hts, hX, hbl, hlocks, hgv⟩ := C0
  intro S r hS hR
  have hT : ∀ w ∈ xTs, w.before #[Value.ref b] s = true := fun w hw => hts w (List.mem_filter.mp hw).1
  have hS : xstep (xcf fu sc) xMT xFT xFD xTY xTC (xSTX ++ [sc]) xmL S = some r := hS
  unfold xstep at hS
  cases hf : xfetch (xm_t xmL) S.1 with
  | none => rw [hf] at hS; cases hS
  | some q =>
    rw [hf] at hS
    obtain ⟨od, oa⟩ := xokb_ok (cl := vwCl) (MT := xMT) (FT := xFT) (FD := xFD) (TY := xTY) (SV := xSV) (NW := xNW) (NF := xNF) (M := xmL) rfl ⟨rfl, rfl, rfl⟩ x_arrs x_oi xFL_ok xMV_ok xMS_ok xMI_ok xOI_ok xCL_ok xAL_ok xKI_ok xKL_ok xGS_ok (xgL_ok hf)
    exact xins_ok (M := xmL) (R := room_1) hx hb hml hown (fun h => absurd h (by decide +kernel)) hT x_good hE (fun _ h => h) rfl rfl rfl rfl (x_tysX tA) (x_tysY tA) (x_tysC tA) (xcall_met x_good (x_tysX tA) (x_tysY tA) (x_tysC tA) x_ok (fun j N as w ro w' _ h => by cases h) 8) od oa hS hR
theorem xlaw_end (C0 : lw_At p s m meth c b L xs) {q : Option XV × XW × Nat × Nat} (h : xend (some (.inr q)) = true) : XLS p l e s m b below meth c D tA ex (.inr q) := by
  obtain ⟨hx, hb, hr, hml, hown, hts, hX, hbl, hlocks, hgv⟩ := C0
  have h : ((match q.1 with
    | some (.inl z) => decide (z = (1, 1))
    | _ => false) && decide (q.2.2.1 ≤ 600000 ∧ q.2.2.2 ≤ 7302250)) = true := h
  rw [Bool.and_eq_true] at h
  have hc := of_decide_eq_true h.2
  intro pc i H locs ls rv ws hd hrt hrk ho hz hw hP hD hS htl
  refine W.widen hc.1 hc.2 ?_
  refine va_forget (fun q hq => hS.2.2 q hq) ?_
  obtain ⟨ro, w', k', n'⟩ := q
  match ro, h.1, ho with
  | some (.inl z), h1, ho =>
    have hz1 : z = (1, 1) := of_decide_eq_true h1
    subst hz1
    obtain ⟨u, rfl, y, rfl, y1, y2⟩ := ho
    have hy : y = 1 := Int32.toInt_inj.mp (show y.toInt = 1 by omega)
    subst hy
    cases i with
    | ireturn => exact lw_ret hx hb hr hlocks hd
    | lreturn =>
      obtain ⟨v, hv⟩ := hrk
      cases hv
    | areturn =>
      rcases hrk with hv | ⟨v, hv⟩ <;> cases hv
    | return_ => cases hrk
    | _ => exact absurd hrk id
theorem xlaw_run (C0 : lw_At p s m meth c b L xs) (hE : XEnv D vwCl (tysX tA) ex (xSTX ++ [sc]) xSV xNW xNF (fun q : Nat => s.heap.size ≤ q) s) {S : XS} (h : xgoodf fu sc S = true) : XLS p l e s m b below meth c D tA ex (.inl S) := by
  unfold xgoodf at h
  cases hr : xrun (xlst fu sc) fu S with
  | none => rw [hr] at h; cases h
  | some q =>
    rw [hr] at h
    match q, h, hr with
    | .inl _, h, _ => cases h
    | .inr q, h, hr => exact xrun_ok (xlaw_step C0 hE) fu S _ hr (xlaw_end C0 h)
end XLW
