/-! ===== typed steps: putfield, arrays ===== -/
def yfit (t : FieldType) (v : YV) : Bool := match t with
  | .int => decide (ykd v = 0)
  | .long => decide (ykd v = 1)
  | .object _ => decide (ykd v = 2)
  | .array _ => decide (ykd v = 2)
  | _ => false
theorem yfit_ok {r : YR} {v : YV} {x : XV} (hv : yvin r v x) {t : FieldType} (h : yfit t v = true) : xfit t x = true := by
  have hk := (ykd_ok hv).1
  unfold yfit at h
  match x, hk, t, h with
  | .inl _, hk, .int, _ => rfl
  | .inr (.inl _), hk, .int, h => rw [← hk] at h; exact absurd (of_decide_eq_true h) (by simp [xkd])
  | .inr (.inr _), hk, .int, h => rw [← hk] at h; exact absurd (of_decide_eq_true h) (by simp [xkd])
  | .inr (.inl _), hk, .long, _ => rfl
  | .inl _, hk, .long, h => rw [← hk] at h; exact absurd (of_decide_eq_true h) (by simp [xkd])
  | .inr (.inr _), hk, .long, h => rw [← hk] at h; exact absurd (of_decide_eq_true h) (by simp [xkd])
  | .inr (.inr _), hk, .object _, _ => rfl
  | .inl _, hk, .object _, h => rw [← hk] at h; exact absurd (of_decide_eq_true h) (by simp [xkd])
  | .inr (.inl _), hk, .object _, h => rw [← hk] at h; exact absurd (of_decide_eq_true h) (by simp [xkd])
  | .inr (.inr _), hk, .array _, _ => rfl
  | .inl _, hk, .array _, h => rw [← hk] at h; exact absurd (of_decide_eq_true h) (by simp [xkd])
  | .inr (.inl _), hk, .array _, h => rw [← hk] at h; exact absurd (of_decide_eq_true h) (by simp [xkd])
/-- what is known behind a change of a field -/
def ychf (s g : Nat) (v : YV) (K : YF) : YF := (yf_e K, yf_f K, ((s, g), v) :: (yf_m K).filter (fun q => decide (q.1.2 ≠ g)), yf_a K, yf_l K)
theorem ychf_ok {ks : List Nat} {w : XW} {r : YR} {K : YF} (h : yknow ks w r K) {s g i c : Nat} {fs : List XV} {v : YV} {x : XV} (hs : r s = .inr (.inr (1, i))) (hw : w[i]? = some (.inl (c, fs))) (hg : g < fs.length) (hv : yvin r v x) : yknow ks (w.set i (.inl (c, fs.set g x))) r (ychf s g v K) := by
  have hi : i < w.length := (List.getElem?_eq_some_iff.mp hw).1
  obtain ⟨h1, h2, h3, h4, h5⟩ := h
  refine ⟨h1, h2, fun q hq => ?_, fun q hq => ?_, h5⟩
  · rcases List.mem_cons.mp hq with hq | hq
    · subst hq
      exact ⟨i, c, fs.set g x, x, hs, List.getElem?_set_self hi, List.getElem?_set_self hg, hv⟩
    · obtain ⟨q1, q2⟩ := List.mem_filter.mp hq
      have q2 : q.1.2 ≠ g := of_decide_eq_true q2
      obtain ⟨i', c', fs', y, b1, b2, b3, b4⟩ := h3 q q1
      by_cases hii : i = i'
      · subst hii
        rw [hw] at b2
        cases b2
        exact ⟨i, c, fs.set g x, y, b1, List.getElem?_set_self hi, by rw [List.getElem?_set_ne (fun e => q2 e.symm)]; exact b3, b4⟩
      · exact ⟨i', c', fs', y, b1, by rw [List.getElem?_set_ne hii]; exact b2, b3, b4⟩
  · obtain ⟨i', t, es, y, b1, b2, b3⟩ := h4 q hq
    have hii : i ≠ i' := fun e => by
      subst e
      rw [hw] at b2
      cases b2
    exact ⟨i', t, es, y, b1, by rw [List.getElem?_set_ne hii]; exact b2, b3⟩
/-- what is known behind a change of a place: of arrays of other kinds all, of this kind nothing but that -/
def ycha (s : Nat) (k : Int) (x : YL) (v : YV) (K : YF) : YF := (yf_e K, yf_f K, yf_m K, ((s, x), v) :: (yf_a K).filter (fun q => match (yf_e K)[q.1.1]? with
  | some (1, k', _) => decide (k'.toNat ≠ k.toNat)
  | _ => false), yf_l K)
theorem ycha_ok {ks : List Nat} {w : XW} {r : YR} {K : YF} (h : yknow ks w r K) {s i t : Nat} {k : Int} {es : List XV} {j : YL} {v : YV} {x : XV} (hs : r s = .inr (.inr (1, i))) (hk : ks[i]? = some k.toNat) (hw : w[i]? = some (.inr (t, es))) (hj0 : 0 ≤ yev (yi r) j) (hj : (yev (yi r) j).toNat < es.length) (hv : yvin r v x) : yknow ks (w.set i (.inr (t, es.set (yev (yi r) j).toNat x))) r (ycha s k j v K) := by
  have hi : i < w.length := (List.getElem?_eq_some_iff.mp hw).1
  obtain ⟨h1, h2, h3, h4, h5⟩ := h
  refine ⟨h1, h2, fun q hq => ?_, fun q hq => ?_, h5⟩
  · obtain ⟨i', c', fs', y, b1, b2, b3⟩ := h3 q hq
    have hii : i ≠ i' := fun e => by
      subst e
      rw [hw] at b2
      cases b2
    exact ⟨i', c', fs', y, b1, by rw [List.getElem?_set_ne hii]; exact b2, b3⟩
  · rcases List.mem_cons.mp hq with hq | hq
    · subst hq
      exact ⟨i, t, _, x, hs, List.getElem?_set_self hi, hj0, List.getElem?_set_self hj, hv⟩
    · obtain ⟨q1, q2⟩ := List.mem_filter.mp hq
      obtain ⟨i', t', es', y, b1, b2, b3⟩ := h4 q q1
      have hii : i ≠ i' := fun e => by
        subst e
        split at q2
        · rename_i k' n' he
          have q3 := of_decide_eq_true q2
          rcases h1 q.1.1 _ he with ⟨_, e1⟩ | ⟨i2, e1, e2⟩
          · rw [b1] at e1
            cases e1
          · rw [b1] at e1
            cases e1
            rw [hk] at e2
            exact q3 (Option.some.inj e2).symm
        · cases q2
      exact ⟨i', t', es', y, b1, by rw [List.getElem?_set_ne hii]; exact b2, b3⟩
section YI
variable {f : XS → Option XR} {J : XS → XS → Prop} {Post : Option XV × XW × Nat × Nat → Prop} {KD : Nat → Option YK} {ks : List Nat} {ow : Option XW} {n0 : Nat} {r0 : YR} {Y : YS} {outs : List YO}
def yh_put (KD : Nat → Option YK) (c g : Nat) (ty : Option FieldType) (Y : YS) : Option (List YO) := match Y.2.2.1, ty with
  | v :: .inr (.inr (0, s)) :: t, some ty => (match (yf_e Y.2.2.2)[s]? with
    | some (1, k, n) => (match KD k.toNat with
      | some (.inl (cl, fa)) => (match fa[g]? with
        | some es => if cl = c ∧ n ≠ 1 ∧ (yfit ty v && yfits Y.2.2.2 es v) = true then some [.inl (Y.1 + 3, Y.2.1, t, ychf s g v Y.2.2.2)] else none
        | none => none)
      | _ => none)
    | _ => none)
  | _, _ => none
theorem yo_put {c g : Nat} {ty : Option FieldType} (ho : ow = none) (h : yh_put KD c g ty Y = some outs) (hg : ∀ o ∈ outs, ygoodO f J Post KD ks ow n0 r0 o) : yone f J Post KD ks ow n0 r0 Y (fun lv st w => xh_put c g ty Y.1 lv st w 0 0) := by
  unfold yh_put at h
  split at h
  · rename_i v s t ty hs
    split at h
    · rename_i k n he
      split at h
      · rename_i cl fa hd
        split at h
        · rename_i es hes
          by_cases hc : cl = c ∧ n ≠ 1 ∧ (yfit ty v && yfits Y.2.2.2 es v) = true
          · rw [if_pos hc] at h
            obtain ⟨rfl, hn, hf⟩ := hc
            rw [Bool.and_eq_true] at hf
            cases h
            intro h0 r w lv st hr h1 h2 h3 h4
            rw [hs] at h2
            obtain ⟨x1, st1, e1, a1, x2, st2, e2, ⟨a2, _⟩, a3⟩ := h2
            subst e1
            subst e2
            obtain ⟨i, hv, hk⟩ := (h3.1 s _ he).resolve_left (fun hh => hn hh.1)
            have e3 : x2 = .inr (.inr (1, i)) := a2.trans hv
            subst e3
            obtain ⟨fs, w1, w2, w3⟩ := yheap_f h4.1 hk hd
            have hl : g < fs.length := by
              rw [w2]
              exact (List.getElem?_eq_some_iff.mp hes).1
            refine ⟨.inl (Y.1 + 3, lv, st2, w.set i (.inl (cl, fs.set g x1)), 0, 0), ?_, yuse (hg _ List.mem_cons_self) h0 hr rfl h1 a3 (ychf_ok h3 hv w1 hl a1) ⟨yheap_setf h4.1 hk hd w1 hes (yfits_ok h3 a1 hf.2), fun _ hh => by rw [ho] at hh; cases hh⟩⟩
            show xh_put cl g (some ty) Y.1 lv (x1 :: .inr (.inr (1, i)) :: st2) w 0 0 = _
            unfold xh_put
            dsimp only
            rw [if_pos rfl, w1]
            dsimp only
            rw [if_pos ⟨rfl, hl, yfit_ok a1 hf.1⟩]
          · rw [if_neg hc] at h
            cases h
        · cases h
      · cases h
    · cases h
  · cases h
theorem xread_ex {es : List XV} {z : Int} (h0 : 0 ≤ z) (h1 : z.toNat < es.length) : ∃ y, es[z.toNat]? = some y ∧ xread es (z, z) = some y := by
  obtain ⟨y, hy⟩ : ∃ y, es[z.toNat]? = some y := ⟨_, List.getElem?_eq_getElem h1⟩
  refine ⟨y, hy, ?_⟩
  unfold xread
  rw [if_pos ⟨h0, by show z < (es.length : Int); omega⟩, if_pos rfl]
  exact hy
/-- a place of an array: an index that fits, what may stand there -/
def yh_ald (KD : Nat → Option YK) (exc : List (List XV)) (ty kd : Nat) (Y : YS) : Option (List YO) := match Y.2.2.1 with
  | .inl x :: .inr (.inr (0, s)) :: t => (match (yf_e Y.2.2.2)[s]? with
    | some (1, k, n) => (match KD k.toNat with
      | some (.inr (t', m, ea)) => if (ty = t' ∨ (ty = 3 ∧ 3 ≤ t')) ∧ n ≠ 1 ∧ ylin (yf_e Y.2.2.2).length x = true ∧ (yprv Y.2.2.2 x && (yprv Y.2.2.2 (ydf (ycst (m : Int)) x 1) && ea.all (fun e => decide (ykd (ysv e 0) = kd)))) = true then (match (yf_a Y.2.2.2).find? (fun q => decide (q.1 = (s, x)) && decide (ykd q.2 = kd)) with
        | some q => some [.inl (Y.1 + 1, Y.2.1, q.2 :: t, Y.2.2.2)]
        | none => yalts (Y.1, Y.2.1, t, Y.2.2.2) (Y.1 + 1) (ykeepa s x) ea) else none
      | _ => none)
    | _ => none)
  | .inl x :: .inr (.inr (m + 3, j)) :: t => (match exc[j]? with
    | some es => if ty = 0 ∧ kd = 0 ∧ m = 0 ∧ (yprv Y.2.2.2 x && (yprv Y.2.2.2 (ydf (ycst (es.length : Int)) x 1) && es.all (fun v => match v with
      | .inl q => decide (q.1 = q.2 ∧ -9 ≤ q.1 ∧ q.1 ≤ 99)
      | _ => false))) = true then yalts (Y.1, Y.2.1, t, Y.2.2.2) (Y.1 + 1) (fun _ K => K) ((es.map (fun v => match v with
      | .inl q => (0, q.1, q.1)
      | _ => (0, 0, 0)))) else none
    | none => none)
  | _ => none
theorem ysv_kd {e : YE} {n : Nat} : ykd (ysv e n) = ykd (ysv e 0) := by
  unfold ysv
  by_cases h0 : e.1 = 0
  · rw [if_pos h0, if_pos h0]
    rfl
  · rw [if_neg h0, if_neg h0]
    by_cases h2 : e.1 = 2
    · rw [if_pos h2, if_pos h2]
      rfl
    · rw [if_neg h2, if_neg h2]
      rfl
theorem yein_kd {e : YE} {x : XV} (h : yein ks e x) : xkd x = ykd (ysv e 0) := by
  have h1 : yvin (fun _ => x) (ysv e 0) x := ysv_in (r := fun _ => x) (n := 0) rfl h
  exact (ykd_ok h1).1
theorem yo_ald {exc : List (List XV)} {ty kd : Nat} (h : yh_ald KD exc ty kd Y = some outs) (hg : ∀ o ∈ outs, ygoodO f J Post KD ks ow n0 r0 o) : yone f J Post KD ks ow n0 r0 Y (fun lv st w => xh_ald ty kd exc Y.1 lv st w 0 0) := by
  unfold yh_ald at h
  split at h
  · rename_i x s t hs
    split at h
    · rename_i k n he
      split at h
      · rename_i t' m ea hd
        split at h
        · rename_i hc
          obtain ⟨ht, hn, hx, hp⟩ := hc
          rw [Bool.and_eq_true, Bool.and_eq_true] at hp
          obtain ⟨p1, p2, p3⟩ := hp
          intro h0 r w lv st hr h1 h2 h3 h4
          rw [hs] at h2
          obtain ⟨x1, st1, e1, a1, x2, st2, e2, ⟨a2, _⟩, a3⟩ := h2
          subst e1
          subst e2
          obtain ⟨rfl, _⟩ := a1
          obtain ⟨i, hv, hk⟩ := (h3.1 s _ he).resolve_left (fun hh => hn hh.1)
          have e3 : x2 = .inr (.inr (1, i)) := a2.trans hv
          subst e3
          obtain ⟨es, w1, w2, w3⟩ := yheap_a h4.1 hk hd
          have q1 := yprv_ok h3 p1
          have q2 := yprv_ok h3 p2
          rw [ydf_ev, ycst_ev] at q2
          obtain ⟨y, y1, y2⟩ := xread_ex (es := es) q1 (by omega)
          have run : xkd y = kd → xh_ald ty kd exc Y.1 lv (.inl (yev (yi r) x, yev (yi r) x) :: .inr (.inr (1, i)) :: st2) w 0 0 = some (.inl (Y.1 + 1, lv, y :: st2, w, 0, 0)) := fun hky => by
            unfold xh_ald xarr
            dsimp only
            rw [if_pos rfl, w1]
            dsimp only
            rw [if_pos ht, y2]
            dsimp only
            rw [if_pos hky]
          split at h
          · rename_i q hq
            cases h
            have q5 := List.find?_some hq
            rw [Bool.and_eq_true] at q5
            have q3 : q.1 = (s, x) := of_decide_eq_true q5.1
            have q4 : ykd q.2 = kd := of_decide_eq_true q5.2
            obtain ⟨i', t2, es', y', b1, b2, b3, b4, b5⟩ := h3.2.2.2.1 q (List.mem_of_find?_eq_some hq)
            rw [q3] at b1 b3 b4
            have b1 : r s = .inr (.inr (1, i')) := b1
            rw [hv] at b1
            cases b1
            rw [w1] at b2
            cases b2
            have b4 : es[(yev (yi r) x).toNat]? = some y' := b4
            rw [y1] at b4
            cases b4
            exact ⟨_, run (by rw [(ykd_ok b5).1]; exact q4), yuse (hg _ List.mem_cons_self) h0 hr rfl h1 ⟨y, _, rfl, b5, a3⟩ h3 h4⟩
          · obtain ⟨e, e1, e2⟩ := w3 _ y y1
            have hky : xkd y = kd := by
              rw [yein_kd e2]
              exact of_decide_eq_true (List.all_eq_true.mp p3 e e1)
            refine ⟨_, run hky, yalts_ok (Y := (Y.1, Y.2.1, t, Y.2.2.2)) (fun r' v K c1 c5 c6 => ?_) h0 hr h1 a3 h3 h4 h hg ⟨e, e1, e2⟩⟩
            refine ⟨⟨c5.1, c5.2.1, c5.2.2.1, fun q hq => ?_, c5.2.2.2.2⟩, rfl⟩
            rcases List.mem_cons.mp hq with hq | hq
            · subst hq
              have hls : s < (yf_e Y.2.2.2).length := (List.getElem?_eq_some_iff.mp he).1
              have ex : yev (yi r') x = yev (yi r) x := yev_ext c1 hx
              exact ⟨i, t', es, y, (c1 s hls).trans hv, w1, by rw [ex]; exact q1, by rw [ex]; exact y1, c6⟩
            · exact c5.2.2.2.1 q hq
        · cases h
      · cases h
    · cases h
  · rename_i x m j t hs
    split at h
    · rename_i es hes
      split at h
      · rename_i hc
        obtain ⟨rfl, rfl, rfl, hp⟩ := hc
        rw [Bool.and_eq_true, Bool.and_eq_true] at hp
        obtain ⟨p1, p2, p3⟩ := hp
        intro h0 r w lv st hr h1 h2 h3 h4
        rw [hs] at h2
        obtain ⟨x1, st1, e1, a1, x2, st2, e2, a2, a3⟩ := h2
        subst e1
        subst e2
        obtain ⟨rfl, _⟩ := a1
        have e3 : x2 = .inr (.inr (2, j)) := a2
        subst e3
        have q1 := yprv_ok h3 p1
        have q2 := yprv_ok h3 p2
        rw [ydf_ev, ycst_ev] at q2
        obtain ⟨y, y1, y2⟩ := xread_ex (es := es) q1 (by omega)
        have p4 := List.all_eq_true.mp p3 y (List.mem_of_getElem? y1)
        match y, y1, y2, p4 with
        | .inl q, y1, y2, p4 =>
          obtain ⟨b1, b2, b3⟩ := of_decide_eq_true p4
          obtain ⟨z1, z2⟩ := q
          dsimp only at b1 b2 b3
          subst b1
          refine ⟨.inl (Y.1 + 1, lv, .inl (z1, z1) :: st2, w, 0, 0), ?_, yalts_ok (Y := (Y.1, Y.2.1, t, Y.2.2.2)) (fun r' v K c1 c5 c6 => ⟨c5, rfl⟩) h0 hr h1 a3 h3 h4 h hg ⟨(0, z1, z1), List.mem_map.mpr ⟨_, List.mem_of_getElem? y1, rfl⟩, z1, rfl, Int.le_refl _, Int.le_refl _, by omega, by omega⟩⟩
          show xh_ald 0 0 exc Y.1 lv (.inl (yev (yi r) x, yev (yi r) x) :: .inr (.inr (2, j)) :: st2) w 0 0 = _
          unfold xh_ald xarr
          dsimp only
          rw [if_neg (by decide), if_pos rfl, hes]
          dsimp only
          rw [if_pos (Or.inl rfl), y2]
          rfl
      · cases h
    · cases h
  · cases h
/-- into a place of an array -/
def yh_ast (KD : Nat → Option YK) (ty kd : Nat) (Y : YS) : Option (List YO) := match Y.2.2.1 with
  | v :: .inl x :: .inr (.inr (0, s)) :: t => (match (yf_e Y.2.2.2)[s]? with
    | some (1, k, n) => (match KD k.toNat with
      | some (.inr (t', m, ea)) => if ty = t' ∧ ykd v = kd ∧ n ≠ 1 ∧ (yprv Y.2.2.2 x && (yprv Y.2.2.2 (ydf (ycst (m : Int)) x 1) && yfits Y.2.2.2 ea v)) = true then some [.inl (Y.1 + 1, Y.2.1, t, ycha s k x v Y.2.2.2)] else none
      | _ => none)
    | _ => none)
  | _ => none
theorem xwrite_ex {es : List XV} {z : Int} {x : XV} (h0 : 0 ≤ z) (h1 : z.toNat < es.length) : xwrite es (z, z) x = some (es.set z.toNat x) := by
  unfold xwrite
  rw [if_pos ⟨h0, by show z < (es.length : Int); omega⟩, if_pos rfl]
theorem yo_ast {ty kd : Nat} (ho : ow = none) (h : yh_ast KD ty kd Y = some outs) (hg : ∀ o ∈ outs, ygoodO f J Post KD ks ow n0 r0 o) : yone f J Post KD ks ow n0 r0 Y (fun lv st w => xh_ast ty kd Y.1 lv st w 0 0) := by
  unfold yh_ast at h
  split at h
  · rename_i v x s t hs
    split at h
    · rename_i k n he
      split at h
      · rename_i t' m ea hd
        split at h
        · rename_i hc
          obtain ⟨rfl, hkv, hn, hp⟩ := hc
          rw [Bool.and_eq_true, Bool.and_eq_true] at hp
          obtain ⟨p1, p2, p3⟩ := hp
          cases h
          intro h0 r w lv st hr h1 h2 h3 h4
          rw [hs] at h2
          obtain ⟨x0, st0, e0, a0, x1, st1, e1, a1, x2, st2, e2, ⟨a2, _⟩, a3⟩ := h2
          subst e0
          subst e1
          subst e2
          obtain ⟨rfl, _⟩ := a1
          obtain ⟨i, hv, hk⟩ := (h3.1 s _ he).resolve_left (fun hh => hn hh.1)
          have e3 : x2 = .inr (.inr (1, i)) := a2.trans hv
          subst e3
          obtain ⟨es, w1, w2, w3⟩ := yheap_a h4.1 hk hd
          have q1 := yprv_ok h3 p1
          have q2 := yprv_ok h3 p2
          rw [ydf_ev, ycst_ev] at q2
          have hl : (yev (yi r) x).toNat < es.length := by omega
          refine ⟨.inl (Y.1 + 1, lv, st2, w.set i (.inr (ty, es.set (yev (yi r) x).toNat x0)), 0, 0), ?_, yuse (hg _ List.mem_cons_self) h0 hr rfl h1 a3 (ycha_ok h3 hv hk w1 q1 hl a0) ⟨yheap_seta h4.1 hk hd w1 (yfits_ok h3 a0 p3), fun _ hh => by rw [ho] at hh; cases hh⟩⟩
          show xh_ast ty kd Y.1 lv (x0 :: .inl (yev (yi r) x, yev (yi r) x) :: .inr (.inr (1, i)) :: st2) w 0 0 = _
          unfold xh_ast
          dsimp only
          rw [if_pos ⟨rfl, by rw [(ykd_ok a0).1]; exact hkv⟩, w1]
          dsimp only
          rw [if_pos rfl, xwrite_ex q1 hl]
        · cases h
      · cases h
    · cases h
  · cases h
end YI
