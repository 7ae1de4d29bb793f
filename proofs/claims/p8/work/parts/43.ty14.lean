/-! ===== a call; every instruction ===== -/
theorem ystin_take {r : YR} : ∀ {n : Nat} {ys : List YV} {l : List XV}, ystin r ys l → ystin r (ys.take n) (l.take n)
  | 0, _, _, _ => by
    rw [List.take_zero, List.take_zero]
    rfl
  | n + 1, [], l, h => by
    have h : l = [] := h
    subst h
    rfl
  | n + 1, q :: ys, _, ⟨v, l', e, h1, h2⟩ => by
    subst e
    exact ⟨v, l'.take n, rfl, h1, ystin_take h2⟩
theorem ystin_app {r : YR} {zs : List YV} {m : List XV} (hz : ystin r zs m) : ∀ {ys : List YV} {l : List XV}, ystin r ys l → ystin r (ys ++ zs) (l ++ m)
  | [], l, h => by
    have h : l = [] := h
    subst h
    exact hz
  | q :: ys, _, ⟨v, l', e, h1, h2⟩ => by
    subst e
    exact ⟨v, l' ++ m, rfl, h1, ystin_app hz h2⟩
theorem ystin_rev {r : YR} : ∀ {ys : List YV} {l : List XV}, ystin r ys l → ystin r ys.reverse l.reverse
  | [], l, h => by
    have h : l = [] := h
    subst h
    rfl
  | q :: ys, _, ⟨v, l', e, h1, h2⟩ => by
    subst e
    rw [List.reverse_cons, List.reverse_cons]
    exact ystin_app (zs := [q]) (m := [v]) ⟨v, [], rfl, h1, rfl⟩ (ystin_rev h2)
theorem xrecv_at {w : XW} {q c : Nat} {fs as : List XV} (hw : w[q]? = some (.inl (c, fs))) : xrecv w c (.inr (.inr (1, q)) :: as) = true := by
  simp [xrecv, hw]
def yrecv (KD : Nat → Option YK) (K : YF) (c : Nat) : List YV → Bool
  | .inr (.inr (0, s)) :: _ => (match (yf_e K)[s]? with
    | some (1, k, n) => decide (n ≠ 1) && (match KD k.toNat with
      | some (.inl d) => decide (d.1 = c)
      | _ => false)
    | _ => false)
  | _ => false
theorem yrecv_ok {KD : Nat → Option YK} {ks : List Nat} {w : XW} {r : YR} {K : YF} (h3 : yknow ks w r K) (h4 : yheap KD ks w) {c : Nat} {vs : List YV} {as : List XV} (hv : ystin r vs as) (h : yrecv KD K c vs = true) : xrecv w c as = true := by
  unfold yrecv at h
  split at h
  · rename_i s t
    obtain ⟨x, l', e, ⟨a1, _⟩, _⟩ := hv
    subst e
    split at h
    · rename_i k n he
      rw [Bool.and_eq_true] at h
      have hn := of_decide_eq_true h.1
      have h2 := h.2
      split at h2
      · rename_i d hd
        have hc := of_decide_eq_true h2
        obtain ⟨i, hv, hk⟩ := (h3.1 s _ he).resolve_left (fun hh => hn hh.1)
        have e3 : x = .inr (.inr (1, i)) := a1.trans hv
        subst e3
        obtain ⟨cl, fa⟩ := d
        obtain ⟨fs, w1, _⟩ := yheap_f h4 hk hd
        dsimp only at hc
        subst hc
        exact xrecv_at w1
      · cases h2
    · cases h
  · cases h
section YI
variable {Post : Option XV × XW × Nat × Nat → Prop} {KD : Nat → Option YK} {ks : List Nat} {ow : XW → Prop} {n0 : Nat} {r0 : YR} {Y : YS} {outs : List YO} {l : Launch} {D : va_G} {cl : List vw_C} {tys : List (ClassId × FieldType)} {tA : Nat → ClassId} {ex : List Nat} {exc : List (List XV)} {SV : List (String × String × String × Nat)} {NW : List (String × Nat × MethodName × String)} {NF : List (String × Nat × String × String × String × String)} {Ts : List Cond} {cf0 : XF} {MT : Nat → Option XM} {FT : Nat → Nat → Option FieldType} {FD : Nat → Option (List XV)} {TY : Nat → Option FieldType} {TC : Nat → Option Nat} {M : XM}
/-- a call that a walk may make -/
def ymc (pu mo : Nat) : Bool := pu == 0 || (mo == 1 || ((pu == 2 && (mo == 2 || (mo == 3 || mo == 4))) || ((pu == 3 && mo == 3) || (pu == 4 && mo == 4))))
theorem ymc_ok {pu mo : Nat} {w w' : XW} (hp : ymd pu ks ow) (h : ymc pu mo = true) (h1 : mo = 1 → w' = w) (h2 : mo = 2 → yrows ks w w') (h3 : mo = 3 → yfix ks w w') (h44 : mo = 4 → yibs ks w w') (hw : ow w) : ow w' := by
  unfold ymc at h
  rw [Bool.or_eq_true, Bool.or_eq_true, Bool.or_eq_true, Bool.or_eq_true] at h
  rcases h with h | h | h | h | h
  · exact hp.1 (by simpa using h) _
  · rw [h1 (by simpa using h)]
    exact hw
  · rw [Bool.and_eq_true] at h
    have hm := h.2
    rw [Bool.or_eq_true, Bool.or_eq_true] at hm
    rcases hm with hm | hm | hm
    · exact hp.2.1 (by simpa using h.1) w w' (h2 (by simpa using hm)) hw
    · have h3 := h3 (by simpa using hm)
      exact hp.2.1 (by simpa using h.1) w w' (fun i k hi hk => h3 i k hi (by omega)) hw
    · have h44 := h44 (by simpa using hm)
      exact hp.2.1 (by simpa using h.1) w w' (fun i k hi hk => h44 i k hi (by omega)) hw
  · rw [Bool.and_eq_true] at h
    exact hp.2.2.1 (by simpa using h.1) w w' (h3 (by simpa using h.2)) hw
  · rw [Bool.and_eq_true] at h
    exact hp.2.2.2 (by simpa using h.1) w w' (h44 (by simpa using h.2)) hw
def yk42 (KD : Nat → Option YK) : Bool := match KD 42 with
  | some (.inr _) => true
  | _ => false
def yh_call (KD : Nat → Option YK) (pu : Nat) (M N : XM) (C : YC) (na : Nat) (recv : Bool) (Y : YS) : Option (List YO) := if (ymc pu C.2.2.1 && (decide (C.2.2.1 ≠ 3) || yk42 KD)) = true ∧ na ≤ Y.2.2.1.length ∧ ((Y.2.2.1.drop na).map ycat).sum ≤ 8 ∧ xm_f N + 1 ≤ xm_f M ∧ 8 + (xm_l N + 11) + xm_o N ≤ xm_o M ∧ xm_k N = 0 ∧ xm_n N = 0 ∧ (!recv || yrecv KD Y.2.2.2 (xm_i N) (Y.2.2.1.take na).reverse) = true ∧ yfita Y.2.2.2 C.1 (Y.2.2.1.take na).reverse = true then (match yghs KD (Y.2.2.1.take na).reverse C.2.1.1 Y with
  | some (K, T) => if C.2.1.2.all (fun g => ylin (ylins (Y.2.2.1.take na).reverse ++ T).length g && yprv K (ysbst (ylins (Y.2.2.1.take na).reverse ++ T) g)) = true then ycalls (Y.1, Y.2.1, Y.2.2.1.drop na, K) (Y.1 + 3) (ylins (Y.2.2.1.take na).reverse ++ T) C.2.2.1 C.2.2.2 else none
  | none => none) else none
theorem yo_call {i : Instr} {a na : Nat} {z : Int} {N : XM} {C : YC} {recv : Bool} (hf : xfetch (xm_t M) Y.1 = some (i, a, na, z)) (hx : ∀ (cf : XF) (lv : XL) (st : List XV) (w : XW), xins cf MT FT FD TY TC exc M i a na z Y.1 lv st w 0 0 = xh_call cf M (MT a) a na recv Y.1 lv st w 0 0) (hN : MT a = some N) (hC : ycont l D cl tys tA ex exc SV NW NF Ts KD N C) {pu : Nat} (hpu : ymd pu ks ow) (h : yh_call KD pu M N C na recv Y = some outs) (hg : ∀ o ∈ outs, ygoodO (xstep cf0 MT FT FD TY TC exc M) (XJ l D cl tys tA ex exc SV NW NF Ts MT FT FD TY TC M) Post KD ks ow n0 r0 o) : ygood (xstep cf0 MT FT FD TY TC exc M) (XJ l D cl tys tA ex exc SV NW NF Ts MT FT FD TY TC M) Post KD ks ow n0 r0 Y := by
  unfold yh_call at h
  split at h
  · rename_i hc
    obtain ⟨q0, q1, q2, q3, q4, q5, q6, q7, q8⟩ := hc
    split at h
    · rename_i K T hgh
      split at h
      · rename_i hpre
        intro h0 r w S hr ⟨lv, st, e0, h1, h2, h3, h4⟩
        subst e0
        have hvs : ∀ r : YR, ystin r Y.2.2.1 st → ystin r (Y.2.2.1.take na).reverse (st.take na).reverse := fun r h => ystin_rev (ystin_take h)
        obtain ⟨r', gs, c1, c2, c3, c4, c5, c6, c7, c8⟩ := yghs_ok (lv := lv) h4.1 hvs hgh h1 h2 h3
        obtain ⟨l1, l2⟩ := ylins_ok (hvs r' c4)
        have hT : ∀ (j : Nat) (x : YL), (ylins (Y.2.2.1.take na).reverse ++ T)[j]? = some x → yev (yi r') x = ynu ((st.take na).reverse ++ gs) j := fun j x hj => by
          by_cases hjl : j < (st.take na).reverse.length
          · rw [List.getElem?_append_left (by rw [l1]; exact hjl)] at hj
            rw [l2 j x hj]
            unfold ynu
            rw [List.getElem?_append_left hjl]
          · rw [List.getElem?_append_right (by rw [l1]; omega), l1] at hj
            rw [c8 _ x hj]
            unfold ynu
            rw [List.getElem?_append_right (by omega)]
        obtain ⟨ro, w', m1, m2, m3, m3', m3x, m3y, m4⟩ := hC ks (st.take na).reverse w gs (yfita_ok h3 q8 (hvs r h2)) h4.1 c6 (fun g hgm => by
          have hp := List.all_eq_true.mp hpre g hgm
          rw [Bool.and_eq_true] at hp
          rw [← ysbst_ev hT hp.1]
          exact yprv_ok c5 hp.2)
        have hlen := ystin_len h2
        have hdrop := (ystin_len (ystin_drop (n := na) h2)).2
        rw [Bool.and_eq_true, Bool.or_eq_true] at q0
        have h42 : C.2.2.1 = 3 → ∀ d, KD 42 = some d → ∃ a, d = .inr a := fun hm d hd => by
          rcases q0.2 with q02 | q02
          · exact absurd hm (of_decide_eq_true q02)
          · unfold yk42 at q02
            rw [hd] at q02
            match d, q02 with
            | .inr a, _ => exact ⟨a, rfl⟩
            | .inl _, q02 => cases q02
        have key := ycalls_ok (Y := (Y.1, Y.2.1, Y.2.2.1.drop na, K)) (mo := C.2.2.1) (w' := w') hT (Nat.le_trans h0 c2) (yext_trans hr c1 h0) c3 (ystin_drop c4) c5 ⟨m2, ymc_ok hpu q0.1 m3 m3' m3x m3y h4.2⟩ h4.1 m3 m3' m3x h42 h hg m4
        refine yreach.jmp (S' := (Y.1 + 3, lv, ro.toList ++ st.drop na, w', 0, 0)) ⟨i, a, na, z, N, ro, w', hf, hN, m1, fun cf hcf => ?_⟩ key
        show xins cf MT FT FD TY TC exc M i a na z Y.1 lv st w 0 0 = _
        rw [hx, hN]
        unfold xh_call
        dsimp only
        have hrec : (!recv || xrecv w (xm_i N) (st.take na).reverse) = true := by
          rw [Bool.or_eq_true] at q7 ⊢
          rcases q7 with q7 | q7
          · exact Or.inl q7
          · exact Or.inr (yrecv_ok h3 h4.1 (hvs r h2) q7)
        rw [if_pos ⟨by omega, by rw [← hdrop]; exact q2, q3, q4, by omega, by omega, hrec⟩, show cf a (st.take na).reverse w = some (ro, w') from hcf, q5, q6]
      · cases h
    · cases h
  · cases h
theorem ygood_of {q : XE} (hf : xfetch (xm_t M) Y.1 = some q) {J : XS → XS → Prop} (h : yone (xstep cf0 MT FT FD TY TC exc M) J Post KD ks ow n0 r0 Y (fun lv st w => xins cf0 MT FT FD TY TC exc M q.1 q.2.1 q.2.2.1 q.2.2.2 Y.1 lv st w 0 0)) : ygood (xstep cf0 MT FT FD TY TC exc M) J Post KD ks ow n0 r0 Y := by
  intro h0 r w S hr ⟨lv, st, e0, h1, h2, h3, h4⟩
  subst e0
  obtain ⟨o', k1, k2⟩ := h h0 r w lv st hr h1 h2 h3 h4
  have k0 := (xstep_at (cf := cf0) (MT := MT) (FT := FT) (FD := FD) (TY := TY) (TC := TC) (exc := exc) hf (lv := lv) (st := st) (w := w) (k := 0) (n := 0)).trans k1
  match o', k0, k2 with
  | .inl S', k0, k2 => exact yreach.go k0 k2
  | .inr q', k0, k2 => exact yreach.ret k0 k2
end YI
