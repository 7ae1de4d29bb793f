/-! ===== a method's surroundings, its contract, a call ===== -/
/-- the classes of which arrays are made -/
def xAO : List String := ["IceBoats$Row", "IceBoats$Boat", "IceBoats$Word", "IceBoats$Look"]
/-- what holds around a method: the classes, the rows outside of the world, the statics, the nest mates' words -/
def XEnv (D : va_G) (cl : List vw_C) (tys : List (ClassId × FieldType)) (ex : List Nat) (exc : List (List XV)) (SV : List (String × String × String × Nat)) (NW : List (String × Nat × MethodName × String)) (NF : List (String × Nat × String × String × String × String)) (A : Nat → Prop) (U : State) : Prop :=
  va_K D cl tys U ∧ xext A ex exc U ∧ (∀ q ∈ SV, ∃ a, ex[q.2.2.2]? = some a ∧ va_Z q.1 q.2.1 q.2.2.1 (.ref a) A U U.heap) ∧ (∀ q ∈ NW, va_Nw (.methodLinkNest q.1 q.2.1 q.2.2.1 q.2.2.2) U) ∧ (∀ q ∈ NF, va_Nw (.fieldLinkNest q.1 q.2.1 q.2.2.1 q.2.2.2.1 q.2.2.2.2.1 q.2.2.2.2.2) U) ∧ ∀ C ∈ xAO, va_AO C U
theorem XEnv.move {D : va_G} {cl : List vw_C} {tys : List (ClassId × FieldType)} {ex : List Nat} {exc : List (List XV)} {SV : List (String × String × String × Nat)} {NW : List (String × Nat × MethodName × String)} {NF : List (String × Nat × String × String × String × String)} {A B : Nat → Prop} {s U : State} (h : XEnv D cl tys ex exc SV NW NF A s) (hW : s.WarmedH U.vm) (hq : ∀ a : Nat, a < s.heap.size → ¬ A a → U.heap[a]? = s.heap[a]?) (hAB : ∀ q, B q → A q) : XEnv D cl tys ex exc SV NW NF B U := by
  obtain ⟨h1, h2, h3, h4, h5, h6⟩ := h
  refine ⟨va_K.moved hW.alike h1, fun j a es ha he => ?_, fun q hq' => ?_, fun q hq' => va_Nw.warmM hW (h4 q hq'), fun q hq' => va_Nw.warmF hW (h5 q hq'), fun C hC => va_AO.moved hW.alike (h6 C hC)⟩
  · obtain ⟨f, f1, f2⟩ := h2 j a es ha he
    exact ⟨f, ((f1.moved hW.alike).kept hq).narrow hAB, f2⟩
  · obtain ⟨a, a1, a2⟩ := h3 q hq'
    exact ⟨a, a1, ((a2.moved hW.alike).kept hq).narrow hAB⟩
abbrev xws (Ts : List Cond) (N : XM) : List Cond := .code (xm_y N) (xm_c N) (xm_l N) (xm_r N) :: Ts
abbrev xrm (N : XM) : Room := { frames := xm_f N, cells := xm_k N, slots := xm_n N, locals := xm_o N }
def XPc (D : va_G) (cl : List vw_C) (tys : List (ClassId × FieldType)) (ex : List Nat) (exc : List (List XV)) (SV : List (String × String × String × Nat)) (NW : List (String × Nat × MethodName × String)) (NF : List (String × Nat × String × String × String × String)) (vals : List Value) (ws : va_W) (sz : Nat) : Array Value → State → Prop := va_Pc vals (fun U => U.heap.size = sz ∧ va_P D cl ws U.heap ∧ va_D (fun _ => True) ws ∧ XEnv D cl tys ex exc SV NW NF (va_A ws sz) U)
def XQ (D : va_G) (cl : List vw_C) (tA : Nat → ClassId) (ex : List Nat) (ro : Option XV) (w' : XW) (ws : va_W) (sz : Nat) : Array Value → State → Outcome → State → Prop := fun _ st oc t => (∃ (rv : Option Value) (ws' : va_W), oc = .returned rv ∧ xo_in (xad ws') ex ro rv ∧ va_P D cl ws' t.heap ∧ va_D (va_A ws sz) ws' ∧ xw_in ex tA w' ws' ∧ ∃ tl, xad ws' = xad ws ++ tl) ∧ va_F (va_A ws sz) st t
def XMet (l : Launch) (D : va_G) (cl : List vw_C) (tys : List (ClassId × FieldType)) (tA : Nat → ClassId) (ex : List Nat) (exc : List (List XV)) (SV : List (String × String × String × Nat)) (NW : List (String × Nat × MethodName × String)) (NF : List (String × Nat × String × String × String × String)) (Ts : List Cond) (N : XM) (as : List XV) (w : XW) (ro : Option XV) (w' : XW) : Prop := ∀ (vals : List Value) (ws : va_W) (sz : Nat), xl_in (xad ws) ex as vals → xw_in ex tA w ws → Met l (xm_y N) (xws Ts N) (xrm N) (XPc D cl tys ex exc SV NW NF vals ws sz) (XQ D cl tA ex ro w' ws sz) (xm_k N) (xm_n N) (va_A ws sz)
section XO
variable {p : Program} {l : Launch} {e : Env} {R : Room} {s : State} {m : MethodId} {args : Array Value} {below : List Frame} {meth : Method} {c : Code} {Q : State → Prop} {cc : ByteArray} {nL : Nat} {D : va_G} {cl : List vw_C} {tys : List (ClassId × FieldType)} {tA : Nat → ClassId} {A : Nat → Prop} {as0 ex : List Nat} {exc : List (List XV)} {ret : Option FieldType} {pc : Nat} {lv : XL} {st : List XV} {w : XW} {k n : Nat} {r : XR} {own : String} {Ts : List Cond} {SV : List (String × String × String × Nat)} {NW : List (String × Nat × MethodName × String)} {NF : List (String × Nat × String × String × String × String)}
theorem x_back {mc ms : Nat} {rest st0 : List Value} {ro : Option XV} {w' : XW} {ws : va_W} {H : Heap} {locs : List Loc} {ls : Array Slot} {av : Array Value} (hr0 : va_Run p l e R s m args below meth c H locs k n mc ms (F0 m pc ls st0) rest (XQ D cl tA ex ro w' ws H.size av) (va_A ws H.size)) (hS : va_S A s.heap H locs) (hF : ∀ q, va_A ws H.size q → A q) (kk : ∀ (rv : Option Value) (ws' : va_W) (H1 : Heap) (locs1 : List Loc), xo_in (xad ws') ex ro rv → va_P D cl ws' H1 → va_D A ws' → xw_in ex tA w' ws' → (∃ tl, xad ws' = xad ws ++ tl) → va_S A s.heap H1 locs1 → W p l e R s m args below meth c H1 locs1 (k + mc) (n + ms) Q (F0 m (pc + 3) ls (rv.toList ++ rest))) : W p l e R s m args below meth c H locs k n Q (F0 m pc ls st0) := by
  intro T hT X
  obtain ⟨v, st₀, t, T', L, h0, X', hL, e1, e2, ⟨⟨rv, ws', hv, ho, hP, hD, hw, htl⟩, hz, hk⟩, st⟩ := hr0 T hT X
  cases hv
  rw [h0] at hz hk
  obtain ⟨t2, a1, b1⟩ := kk v ws' T'.heap (locs ++ L) ho (by rw [e1]; exact hP) (hD.weaken (fun _ q _ h => hF q.1 h)) hw htl
    ⟨Nat.le_trans hS.1 (by rw [e1]; exact hz), fun q h1 h2 => by rw [e1, hk q (Nat.lt_of_lt_of_le h1 hS.1) (fun z => h2 (hF q z))]; exact hS.2.1 q h1 h2, fun q hq => by
      rcases List.mem_append.mp hq with h | h
      · exact hS.2.2 q h
      · exact hF _ (hL q h)⟩ T' rfl X'
  exact ⟨t2, st t2 a1, b1⟩
theorem x_free {ws : va_W} {H : Heap} {locs : List Loc} (hD : va_D A ws) (hS : va_S A s.heap H locs) (hA : ∀ q, s.heap.size ≤ q → A q) : ∀ q, va_A ws H.size q → A q := by
  intro q h
  rcases h with ⟨i, e0, h⟩ | h
  · exact hD.2 i (q, e0) h
  · exact hA q (Nat.le_trans hS.1 h)
theorem x_blind {vals : List Value} {ws : va_W} {sz : Nat} : FrameBlind (XPc D cl tys ex exc SV NW NF vals ws sz) := by
  intro a U g mk h
  obtain ⟨h1, h2, h3, h4, h5⟩ := h
  exact ⟨h1, h2, h3, h4, XEnv.move (U := U.calling g mk a) h5 (State.WarmedH.refl U) (fun _ _ _ => rfl) (fun _ h => h)⟩
theorem x_pre {vals : List Value} {ws : va_W} {H : Heap} {locs : List Loc} (hE : XEnv D cl tys ex exc SV NW NF A s) (hP : va_P D cl ws H) (hD : va_D A ws) (hS : va_S A s.heap H locs) (hF : ∀ q, va_A ws H.size q → A q) : PreS s H (XPc D cl tys ex exc SV NW NF vals ws H.size) vals :=
  ⟨x_blind, fun U hU hW => ⟨rfl, by rw [hU], by rw [hU]; exact hP, hD.weaken (fun _ _ _ _ => trivial), XEnv.move hE hW (fun a h1 h2 => by rw [hU]; exact hS.2.1 a h1 h2) hF⟩⟩
/-- a call, of whatever kind: what its run says, given the callee's contract -/
theorem xo_call {cf : XF} {M N : XM} {j na : Nat} {recv : Bool} (hE : XEnv D cl tys ex exc SV NW NF A s) (hA : ∀ q, s.heap.size ≤ q → A q) (hRf : R.frames = xm_f M) (hRo : R.locals = xm_o M) (hRk : R.cells = xm_k M) (hRn : R.slots = xm_n M) (hcf : ∀ (as : List XV) (w : XW) (ro : Option XV) (w' : XW), cf j as w = some (ro, w') → XMet l D cl tys tA ex exc SV NW NF Ts N as w ro w')
    (run : ∀ (ro : Option XV) (w' : XW) (vals rest : List Value) (ws : va_W) (H : Heap) (locs : List Loc) (ls : Array Slot), vals.length = na → ls.size = nL → xl_in (xad ws) ex (st.take na).reverse vals → xw_in ex tA w ws → va_P D cl ws H → (!recv || xrecv w (xm_i N) (st.take na).reverse) = true → xm_f N + 1 ≤ R.frames ∧ 8 + (xm_l N + 11) + xm_o N ≤ R.locals → k + xm_k N ≤ R.cells ∧ n + xm_n N ≤ R.slots → 2 * (F0 m pc ls (vals.reverse ++ rest)).monitorRoom + (rest.map fun v => v.category).sum ≤ 8 → Met l (xm_y N) (xws Ts N) (xrm N) (XPc D cl tys ex exc SV NW NF vals ws H.size) (XQ D cl tA ex ro w' ws H.size) (xm_k N) (xm_n N) (va_A ws H.size) → PreS s H (XPc D cl tys ex exc SV NW NF vals ws H.size) vals → va_Run p l e R s m args below meth c H locs k n (xm_k N) (xm_n N) (F0 m pc ls (vals.reverse ++ rest)) rest (XQ D cl tA ex ro w' ws H.size vals.toArray) (va_A ws H.size))
    (h : xh_call cf M (some N) j na recv pc lv st w k n = some r) (hr : XRs p l e R s m args below meth c Q cc nL D cl tA A as0 ex ret r) : XSat p l e R s m args below meth c Q nL D cl tA A as0 ex (pc, lv, st, w, k, n) := by
  unfold xh_call at h
  dsimp only at h
  by_cases hq : na ≤ st.length ∧ ((st.drop na).map xcat).sum ≤ 8 ∧ xm_f N + 1 ≤ xm_f M ∧ 8 + (xm_l N + 11) + xm_o N ≤ xm_o M ∧ k + xm_k N ≤ xm_k M ∧ n + xm_n N ≤ xm_n M ∧ (!recv || xrecv w (xm_i N) (st.take na).reverse) = true
  · rw [if_pos hq] at h
    obtain ⟨q1, q2, q3, q4, q5, q6, q7⟩ := hq
    cases hc : cf j (st.take na).reverse w with
    | none => rw [hc] at h; cases h
    | some o =>
      obtain ⟨ro, w'⟩ := o
      rw [hc] at h
      cases h
      intro H locs ls vs lw ws ⟨h1, h2, h3, h4, h5, h6, h7, h8⟩
      have hF := x_free h5 h6 hA
      have ht : xl_in (xad ws) ex (st.take na) (vs.take na) := h2.take na
      have hdr : xl_in (xad ws) ex (st.drop na) (vs.drop na) := h2.drop na
      have hlen := ht.len
      rw [List.length_take, List.length_take, Nat.min_eq_left q1] at hlen
      have hvals := ht.rev
      have e0 : vs = ((vs.take na).reverse).reverse ++ vs.drop na := by rw [List.reverse_reverse, List.take_append_drop]
      have hl2 : (vs.take na).reverse.length = na := by rw [List.length_reverse, List.length_take]; exact hlen
      have hrun := run ro w' (vs.take na).reverse (vs.drop na) ws H locs ls hl2 h7.1 hvals h3 h4 q7 ⟨by rw [hRf]; exact q3, by rw [hRo]; exact q4⟩ ⟨by rw [hRk]; exact q5, by rw [hRn]; exact q6⟩ (by
        show 2 * 0 + _ ≤ 8
        rw [hdr.cats]
        omega) (hcf _ _ _ _ hc _ ws H.size hvals h3) (x_pre hE h4 h5 h6 hF)
      rw [← e0] at hrun
      refine x_back hrun h6 hF (fun rv ws' H1 locs1 a1 a2 a3 a4 a5 a6 => ?_)
      obtain ⟨tl, htl⟩ := a5
      refine hr H1 locs1 ls (rv.toList ++ vs.drop na) lw ws' ⟨by rw [htl]; exact h1.mono tl, ?_, a4, a2, a3, a6, h7, ?_⟩
      · have hd2 : xl_in (xad ws') ex (st.drop na) (vs.drop na) := by rw [htl]; exact hdr.mono tl
        cases ro with
        | none =>
          have a1 : rv = none := a1
          subst a1
          exact hd2
        | some x =>
          obtain ⟨u, rfl, hu⟩ := a1
          exact ⟨u, vs.drop na, rfl, hu, hd2⟩
      · obtain ⟨t0, ht0⟩ := h8
        exact ⟨t0 ++ tl, by rw [htl, ht0, List.append_assoc]⟩
  · rw [if_neg hq] at h
    cases h
end XO
