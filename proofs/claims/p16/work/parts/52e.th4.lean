/-! ===== by hand: look ===== -/
/-- behind a method that may make cells -/
def ypA (ks : List Nat) (mk mn : Nat) (q : Option XV × XW × Nat × Nat) : Prop := q.2.2.1 ≤ mk ∧ q.2.2.2 ≤ mn ∧ (∃ z, q.1 = some (.inl (z, z)) ∧ yrg z) ∧ ∃ tl : List Nat, (∀ k ∈ tl, yfresh k = true) ∧ yheap yKD (ks ++ tl) q.2.1
theorem yheap0_setf' {ks : List Nat} {w : XW} {i k cl : Nat} {fa : List (List YE)} {fs : List XV} {f : Nat} {es : List YE} {v : XV} (h : yheap0 yKD ks w) (hk : ks[i]? = some k) (hd : yKD k = some (.inl (cl, fa))) (hw : w[i]? = some (.inl (cl, fs))) (hf : fa[f]? = some es) (hv : yany ks es v) : yheap0 yKD ks (w.set i (.inl (cl, fs.set f v))) := by
  have hi : i < w.length := (List.getElem?_eq_some_iff.mp hw).1
  refine ⟨by rw [List.length_set]; exact h.1, fun j k' hk' => ?_⟩
  by_cases hj : i = j
  · subst hj
    rw [hk] at hk'
    cases hk'
    obtain ⟨d, c, h1, h2, h3⟩ := h.2 i k hk
    rw [hd] at h1
    cases h1
    rw [hw] at h2
    cases h2
    obtain ⟨e1, e2, e3⟩ := h3
    refine ⟨_, _, hd, List.getElem?_set_self hi, rfl, by rw [List.length_set]; exact e2, fun g eg u hg hu => ?_⟩
    dsimp only at hu hg
    by_cases hgf : f = g
    · subst hgf
      rw [hf] at hg
      cases hg
      have hl : f < fs.length := by
        rw [e2]
        exact (List.getElem?_eq_some_iff.mp hf).1
      rw [List.getElem?_set_self hl] at hu
      cases hu
      exact hv
    · rw [List.getElem?_set_ne hgf] at hu
      exact e3 g eg u hg hu
  · obtain ⟨d, c, h1, h2, h3⟩ := h.2 j k' hk'
    exact ⟨d, c, h1, by rw [List.getElem?_set_ne hj]; exact h2, h3⟩
section YH
variable {l : Launch} {D : va_G} {tA : Nat → ClassId} {ex : List Nat} {sc : List XV}
theorem ycall_at {M N : XM} {Post : Option XV × XW × Nat × Nat → Prop} {pc : Nat} {lv : XL} {st : List XV} {w w' : XW} {k n : Nat} {i : Instr} {a na : Nat} {z : Int} {recv : Bool} {ro : Option XV} (hf : xfetch (xm_t M) pc = some (i, a, na, z)) (hx : ∀ cf : XF, xins cf xMT xFT xFD xTY xTC (xSTX ++ [sc]) M i a na z pc lv st w k n = xh_call cf M (xMT a) a na recv pc lv st w k n) (hN : xMT a = some N) (m1 : XMet l D vwCl (tysX tA) tA ex (xSTX ++ [sc]) xSV xNW xNF xTs N (st.take na).reverse w ro w') (hc : na ≤ st.length ∧ ((st.drop na).map xcat).sum ≤ 8 ∧ xm_f N + 1 ≤ xm_f M ∧ 8 + (xm_l N + 11) + xm_o N ≤ xm_o M ∧ k + xm_k N ≤ xm_k M ∧ n + xm_n N ≤ xm_n M ∧ (!recv || xrecv w (xm_i N) (st.take na).reverse) = true) (h : yreach (ySt sc M) (yJm l D tA ex sc M) Post (pc + 3, lv, ro.toList ++ st.drop na, w', k + xm_k N, n + xm_n N)) : yreach (ySt sc M) (yJm l D tA ex sc M) Post (pc, lv, st, w, k, n) := by
  refine yreach.jmp ⟨i, a, na, z, N, ro, w', hf, hN, m1, fun cf hcf => ?_⟩ h
  show xins cf xMT xFT xFD xTY xTC (xSTX ++ [sc]) M i a na z pc lv st w k n = _
  rw [hx, hN]
  unfold xh_call
  dsimp only
  rw [if_pos hc, show cf a (st.take na).reverse w = some (ro, w') from hcf]
theorem ysp_looks {ks : List Nat} {w : XW} (h : ysp ks w) (hu : ∀ p p' : Nat, ks[p]? = some 20 → ks[p']? = some 20 → p = p') {i0 p0 : Nat} {c0 t0 : Nat} {fs0 es0 : List XV} {n : Int} {v : XV} (hi : ks[i0]? = some 0) (hp : ks[p0]? = some 20) (hw : w[i0]? = some (.inl (c0, fs0))) (hwp : w[p0]? = some (.inr (t0, es0))) (hn0 : 0 ≤ n) (hnl : n.toNat < es0.length) (h11 : fs0[11]? = some (.inl (n, n))) (hv : v ≠ .inr (.inr (0, 0))) : ysp ks ((w.set p0 (.inr (t0, es0.set n.toNat v))).set i0 (.inl (c0, fs0.set 11 (.inl (n + 1, n + 1))))) := by
  obtain ⟨s1, s2, s3, s4, s5, s6, s7, s8⟩ := h
  have hne : p0 ≠ i0 := fun e => by
    rw [e, hi] at hp
    cases hp
  have hpl : p0 < w.length := (List.getElem?_eq_some_iff.mp hwp).1
  have hw1 : (w.set p0 (.inr (t0, es0.set n.toNat v)))[i0]? = some (.inl (c0, fs0)) := by
    rw [List.getElem?_set_ne hne]
    exact hw
  obtain ⟨a1, a2⟩ := yset_f (g := 11) (x := .inl (n + 1, n + 1)) hw1
  obtain ⟨b1, b2⟩ := yset_a (es1 := es0.set n.toNat v) hwp
  have hil : i0 < (w.set p0 (.inr (t0, es0.set n.toNat v))).length := (List.getElem?_eq_some_iff.mp hw1).1
  have h11l : 11 < fs0.length := (List.getElem?_eq_some_iff.mp h11).1
  have ar : ∀ (p k : Nat) (a : Nat × List XV), ks[p]? = some k → k ≠ 20 → ((w.set p0 (.inr (t0, es0.set n.toNat v))).set i0 (.inl (c0, fs0.set 11 (.inl (n + 1, n + 1)))))[p]? = some (.inr a) → w[p]? = some (.inr a) := fun p k a hk hk2 h => b2 p a (a2 p a h) (fun e => by
    rw [e, hp] at hk
    exact hk2 (Option.some.inj hk).symm)
  have ob : ∀ (i k c : Nat) (fs : List XV), ks[i]? = some k → ((w.set p0 (.inr (t0, es0.set n.toNat v))).set i0 (.inl (c0, fs0.set 11 (.inl (n + 1, n + 1)))))[i]? = some (.inl (c, fs)) → ∃ fs1, w[i]? = some (.inl (c, fs1)) ∧ ∀ f, (k = 0 → f ≠ 11) → fs1[f]? = fs[f]? := fun i k c fs hk h => by
    obtain ⟨fs1, e1, e2⟩ := a1 i c fs h
    refine ⟨fs1, b1 i _ e1, fun f hf => e2 f (fun e => hf ?_)⟩
    rw [e, hi] at hk
    exact (Option.some.inj hk).symm
  refine ⟨s1, s2, s3, s4, fun i p c fs m t es j h1 h2 h3 h4 h5 h6 => ?_, fun i p c fs m t es j h1 h2 h3 h4 h5 h6 => ?_, fun i c fs z h1 h2 h3 h4 => ?_, fun i p q c fs m t a u b j z h1 h2 h3 h4 h5 h6 h7 h8 h9 h10 => ?_⟩
  · obtain ⟨fs1, e1, e2⟩ := ob i 0 c fs h1 h3
    exact s5 i p c fs1 m t es j h1 h2 e1 (by rw [e2 10 (fun _ => by decide)]; exact h4) (ar p 16 _ h2 (by decide) h5) h6
  · have ep := hu p p0 h2 hp
    subst ep
    have h5' := a2 p _ h5
    rw [List.getElem?_set_self hpl] at h5'
    cases h5'
    by_cases hj : j = n.toNat
    · subst hj
      rw [List.getElem?_set_self hnl]
      exact fun e => hv (Option.some.inj e)
    · rw [List.getElem?_set_ne (fun e => hj e.symm)]
      by_cases ei : i = i0
      · subst ei
        rw [List.getElem?_set_self hil] at h3
        cases h3
        rw [List.getElem?_set_self h11l] at h4
        cases h4
        exact s6 i p c0 fs0 n t0 es0 j h1 h2 hw h11 hwp (by omega)
      · obtain ⟨fs1, e1, e2⟩ := a1 i c fs h3
        exact s6 i p c fs1 m t0 es0 j h1 h2 (b1 i _ e1) (by rw [e2 11 (fun e => absurd e ei)]; exact h4) hwp h6
  · obtain ⟨fs1, e1, e2⟩ := ob i 17 c fs h1 h2
    exact s7 i c fs1 z h1 e1 (by rw [e2 0 (fun e => by cases e)]; exact h3) (by rw [e2 3 (fun e => by cases e)]; exact h4)
  · obtain ⟨fs1, e1, e2⟩ := ob i 30 c fs h1 h4
    exact s8 i p q c fs1 m t a u b j z h1 h2 h3 e1 (by rw [e2 36 (fun e => by cases e)]; exact h5) (ar p 58 _ h2 (by decide) h6) (ar q 61 _ h3 (by decide) h7) h8 h9 h10
set_option maxHeartbeats 4000000 in
theorem ylk_76 {ks : List Nat} {w : XW} {i0 b0 : Nat} {b n : Int} (h4 : yheap yKD ks w) (hu : ∀ p p' : Nat, ks[p]? = some 20 → ks[p']? = some 20 → p = p') (hi : ks[i0]? = some 0) (hb : ks[b0]? = some 14) {fs : List XV} (hw0 : w[i0]? = some (.inl (9, fs))) (hn : fs[11]? = some (.inl (n, n))) (hn0 : 0 ≤ n) (hn1 : n ≤ 39) : yreach (ySt sc xm72) (yJm l D tA ex sc xm72) (ypA ks 1 4) (76, [(0, .inr (.inr (1, i0))), (1, .inl (b, b)), (2, .inr (.inr (1, b0)))], [], w, 0, 0) := by
  -- what stands where
  obtain ⟨fb, wb, lb, fbf⟩ := yheap_f h4 hb (show yKD 14 = some yK_14 from rfl)
  obtain ⟨vc, gc, cz, rfl, c0, c1, c2, c3⟩ := yfld h4 hb (show yKD 14 = some yK_14 from rfl) wb 2 rfl
  obtain ⟨vs, gs, hvs⟩ := yfld h4 hi (show yKD 0 = some yK_0 from rfl) hw0 2 rfl
  obtain ⟨s0, rfl, ks0⟩ := yrf hvs
  obtain ⟨fsea, wsea, lsea, _⟩ := yheap_f h4 ks0 (show yKD 5 = some yK_5 from rfl)
  obtain ⟨vi, gi, hvi⟩ := yfld h4 ks0 (show yKD 5 = some yK_5 from rfl) wsea 2 rfl
  obtain ⟨ic, rfl, kic⟩ := yrf hvi
  obtain ⟨ei, wi, li, ai⟩ := yheap_a h4 kic (show yKD 8 = some yK_8 from rfl)
  obtain ⟨vz, z1, z2⟩ := xread_ex (es := ei) c0 (by omega)
  obtain ⟨ez, ez1, ez2⟩ := ai _ vz z1
  rw [List.mem_singleton.mp ez1] at ez2
  obtain ⟨z, rfl, _, _, z3, z4⟩ := ez2
  obtain ⟨vt, gt, tk, rfl, _, _, t3, t4⟩ := yfld h4 hi (show yKD 0 = some yK_0 from rfl) hw0 12 rfl
  obtain ⟨vl, gl, hvl⟩ := yfld h4 hi (show yKD 0 = some yK_0 from rfl) hw0 5 rfl
  obtain ⟨p0, rfl, kp⟩ := yrf hvl
  obtain ⟨el, wl, ll, al⟩ := yheap_a h4 kp (show yKD 20 = some yK_20 from rfl)
  obtain ⟨h, hh, hr⟩ := xe2_ex (fun x y => x <<< (y &&& 31)) 1 b
  have hlw : ∀ (j : Nat) (c : XC) (tl : XW), w[j]? = some c → (w ++ tl)[j]? = some c := fun j c tl hj => by
    rw [List.getElem?_append_left (List.getElem?_eq_some_iff.mp hj).1]
    exact hj
  have f0l := (List.getElem?_eq_some_iff.mp hn).1
  refine yreach.at (S' := (77, [(0, .inr (.inr (1, i0))), (1, .inl (b, b)), (2, .inr (.inr (1, b0)))], [.inr (.inr (1, b0))], w, 0, 0)) (q := _) rfl rfl ?_
  refine yreach.at (S' := (80, [(0, .inr (.inr (1, i0))), (1, .inl (b, b)), (2, .inr (.inr (1, b0)))], [.inr (.inr (1, w.length)), .inr (.inr (1, b0))], w ++ [(.inl (2, [.inl (0, 0), .inl (0, 0), .inl (0, 0), .inl (0, 0)]) : XC)], 1, 4)) (q := _) rfl rfl ?_
  refine yreach.at (S' := (81, [(0, .inr (.inr (1, i0))), (1, .inl (b, b)), (2, .inr (.inr (1, b0)))], [.inr (.inr (1, w.length)), .inr (.inr (1, w.length)), .inr (.inr (1, b0))], w ++ [(.inl (2, [.inl (0, 0), .inl (0, 0), .inl (0, 0), .inl (0, 0)]) : XC)], 1, 4)) (q := _) rfl rfl ?_
  refine yreach.at (S' := (82, [(0, .inr (.inr (1, i0))), (1, .inl (b, b)), (2, .inr (.inr (1, b0)))], [.inr (.inr (1, b0)), .inr (.inr (1, w.length)), .inr (.inr (1, w.length)), .inr (.inr (1, b0))], w ++ [(.inl (2, [.inl (0, 0), .inl (0, 0), .inl (0, 0), .inl (0, 0)]) : XC)], 1, 4)) (q := _) rfl rfl ?_
  refine yreach.at (S' := (85, [(0, .inr (.inr (1, i0))), (1, .inl (b, b)), (2, .inr (.inr (1, b0)))], [.inl (cz, cz), .inr (.inr (1, w.length)), .inr (.inr (1, w.length)), .inr (.inr (1, b0))], w ++ [(.inl (2, [.inl (0, 0), .inl (0, 0), .inl (0, 0), .inl (0, 0)]) : XC)], 1, 4)) (q := _) rfl (sx_get (hlw _ _ _ wb) gc) ?_
  refine yreach.at (S' := (86, [(0, .inr (.inr (1, i0))), (1, .inl (b, b)), (2, .inr (.inr (1, b0)))], [.inr (.inr (1, i0)), .inl (cz, cz), .inr (.inr (1, w.length)), .inr (.inr (1, w.length)), .inr (.inr (1, b0))], w ++ [(.inl (2, [.inl (0, 0), .inl (0, 0), .inl (0, 0), .inl (0, 0)]) : XC)], 1, 4)) (q := _) rfl rfl ?_
  refine yreach.at (S' := (89, [(0, .inr (.inr (1, i0))), (1, .inl (b, b)), (2, .inr (.inr (1, b0)))], [.inr (.inr (1, s0)), .inl (cz, cz), .inr (.inr (1, w.length)), .inr (.inr (1, w.length)), .inr (.inr (1, b0))], w ++ [(.inl (2, [.inl (0, 0), .inl (0, 0), .inl (0, 0), .inl (0, 0)]) : XC)], 1, 4)) (q := _) rfl (sx_get (hlw _ _ _ hw0) gs) ?_
  refine yreach.at (S' := (92, [(0, .inr (.inr (1, i0))), (1, .inl (b, b)), (2, .inr (.inr (1, b0)))], [.inr (.inr (1, ic)), .inl (cz, cz), .inr (.inr (1, w.length)), .inr (.inr (1, w.length)), .inr (.inr (1, b0))], w ++ [(.inl (2, [.inl (0, 0), .inl (0, 0), .inl (0, 0), .inl (0, 0)]) : XC)], 1, 4)) (q := _) rfl (sx_get (hlw _ _ _ wsea) gi) ?_
  refine yreach.at (S' := (93, [(0, .inr (.inr (1, i0))), (1, .inl (b, b)), (2, .inr (.inr (1, b0)))], [.inr (.inr (1, b0)), .inr (.inr (1, ic)), .inl (cz, cz), .inr (.inr (1, w.length)), .inr (.inr (1, w.length)), .inr (.inr (1, b0))], w ++ [(.inl (2, [.inl (0, 0), .inl (0, 0), .inl (0, 0), .inl (0, 0)]) : XC)], 1, 4)) (q := _) rfl rfl ?_
  refine yreach.at (S' := (96, [(0, .inr (.inr (1, i0))), (1, .inl (b, b)), (2, .inr (.inr (1, b0)))], [.inl (cz, cz), .inr (.inr (1, ic)), .inl (cz, cz), .inr (.inr (1, w.length)), .inr (.inr (1, w.length)), .inr (.inr (1, b0))], w ++ [(.inl (2, [.inl (0, 0), .inl (0, 0), .inl (0, 0), .inl (0, 0)]) : XC)], 1, 4)) (q := _) rfl (sx_get (hlw _ _ _ wb) gc) ?_
  refine yreach.at (S' := (97, [(0, .inr (.inr (1, i0))), (1, .inl (b, b)), (2, .inr (.inr (1, b0)))], [.inl (z, z), .inl (cz, cz), .inr (.inr (1, w.length)), .inr (.inr (1, w.length)), .inr (.inr (1, b0))], w ++ [(.inl (2, [.inl (0, 0), .inl (0, 0), .inl (0, 0), .inl (0, 0)]) : XC)], 1, 4)) (q := _) rfl (sx_iald (hlw _ _ _ wi) z2) ?_
  refine yreach.at (S' := (98, [(0, .inr (.inr (1, i0))), (1, .inl (b, b)), (2, .inr (.inr (1, b0)))], [.inr (.inr (1, i0)), .inl (z, z), .inl (cz, cz), .inr (.inr (1, w.length)), .inr (.inr (1, w.length)), .inr (.inr (1, b0))], w ++ [(.inl (2, [.inl (0, 0), .inl (0, 0), .inl (0, 0), .inl (0, 0)]) : XC)], 1, 4)) (q := _) rfl rfl ?_
  refine yreach.at (S' := (101, [(0, .inr (.inr (1, i0))), (1, .inl (b, b)), (2, .inr (.inr (1, b0)))], [.inl (tk, tk), .inl (z, z), .inl (cz, cz), .inr (.inr (1, w.length)), .inr (.inr (1, w.length)), .inr (.inr (1, b0))], w ++ [(.inl (2, [.inl (0, 0), .inl (0, 0), .inl (0, 0), .inl (0, 0)]) : XC)], 1, 4)) (q := _) rfl (sx_get (hlw _ _ _ hw0) gt) ?_
  refine yreach.at (S' := (102, [(0, .inr (.inr (1, i0))), (1, .inl (b, b)), (2, .inr (.inr (1, b0)))], [.inl (1, 1), .inl (tk, tk), .inl (z, z), .inl (cz, cz), .inr (.inr (1, w.length)), .inr (.inr (1, w.length)), .inr (.inr (1, b0))], w ++ [(.inl (2, [.inl (0, 0), .inl (0, 0), .inl (0, 0), .inl (0, 0)]) : XC)], 1, 4)) (q := _) rfl rfl ?_
  refine yreach.at (S' := (103, [(0, .inr (.inr (1, i0))), (1, .inl (b, b)), (2, .inr (.inr (1, b0)))], [.inl (b, b), .inl (1, 1), .inl (tk, tk), .inl (z, z), .inl (cz, cz), .inr (.inr (1, w.length)), .inr (.inr (1, w.length)), .inr (.inr (1, b0))], w ++ [(.inl (2, [.inl (0, 0), .inl (0, 0), .inl (0, 0), .inl (0, 0)]) : XC)], 1, 4)) (q := _) rfl rfl ?_
  refine yreach.at (S' := (104, [(0, .inr (.inr (1, i0))), (1, .inl (b, b)), (2, .inr (.inr (1, b0)))], [.inl (h, h), .inl (tk, tk), .inl (z, z), .inl (cz, cz), .inr (.inr (1, w.length)), .inr (.inr (1, w.length)), .inr (.inr (1, b0))], w ++ [(.inl (2, [.inl (0, 0), .inl (0, 0), .inl (0, 0), .inl (0, 0)]) : XC)], 1, 4)) (q := _) rfl (by
    show (some (.inl (104, _, .inl (xe2 _ (1, 1) (b, b)) :: _, _, 1, 4)) : Option XR) = _
    rw [hh]) ?_
  refine ycall_at (N := xm73) (ro := none) (w' := w ++ [(.inl (2, [.inl (cz, cz), .inl (z, z), .inl (tk, tk), .inl (h, h)]) : XC)]) (recv := true) (i := .invokespecial 221) (a := 73) (na := 5) (z := 0) rfl (fun _ => rfl) rfl ylk_init ⟨Nat.le_of_ble_eq_true rfl, Nat.le_of_ble_eq_true rfl, Nat.le_of_ble_eq_true rfl, Nat.le_of_ble_eq_true rfl, Nat.le_of_ble_eq_true rfl, Nat.le_of_ble_eq_true rfl, xrecv_at (as := [.inl (cz, cz), .inl (z, z), .inl (tk, tk), .inl (h, h)]) yapp_at⟩ ?_
  show yreach (ySt sc xm72) (yJm l D tA ex sc xm72) (ypA ks 1 4) (107, [(0, .inr (.inr (1, i0))), (1, .inl (b, b)), (2, .inr (.inr (1, b0)))], [.inr (.inr (1, w.length)), .inr (.inr (1, b0))], w ++ [(.inl (2, [.inl (cz, cz), .inl (z, z), .inl (tk, tk), .inl (h, h)]) : XC)], 1, 4)
  have hl4 : w.length = ks.length := h4.1.1
  have kw : (ks ++ [21])[w.length]? = some 21 := by
    rw [hl4, List.getElem?_append_right (Nat.le_refl _), Nat.sub_self]
    rfl
  have hW2 : yheap yKD (ks ++ [21]) (w ++ [(.inl (2, [.inl (cz, cz), .inl (z, z), .inl (tk, tk), .inl (h, h)]) : XC)]) := yheap_new h4 (show yKD 21 = some yK_21 from rfl) ⟨rfl, rfl, fun f es v hf hv => by
    match f, hf, hv with
    | 0, hf, hv =>
      cases hf
      cases hv
      exact ⟨_, List.mem_cons_self, cz, rfl, c0, c1, c2, c3⟩
    | 1, hf, hv =>
      cases hf
      cases hv
      exact ⟨_, List.mem_cons_self, ytop_in ⟨z3, z4⟩⟩
    | 2, hf, hv =>
      cases hf
      cases hv
      exact ⟨_, List.mem_cons_self, ytop_in ⟨t3, t4⟩⟩
    | 3, hf, hv =>
      cases hf
      cases hv
      exact ⟨_, List.mem_cons_self, ytop_in hr⟩
    | f + 4, hf, hv => cases hf⟩ rfl (fun e => by cases e)
  have hks : ∀ (j k : Nat), ks[j]? = some k → (ks ++ [21])[j]? = some k := fun j k hj => by
    rw [List.getElem?_append_left (List.getElem?_eq_some_iff.mp hj).1]
    exact hj
  have hlb : 11 < fb.length := by
    rw [lb]
    decide
  have hne1 : b0 ≠ i0 := fun e => by
    rw [e, hi] at hb
    cases hb
  have hne2 : b0 ≠ p0 := fun e => by
    rw [e, kp] at hb
    cases hb
  have hne3 : i0 ≠ p0 := fun e => by
    rw [e, kp] at hi
    cases hi
  refine yreach.at (S' := (110, [(0, .inr (.inr (1, i0))), (1, .inl (b, b)), (2, .inr (.inr (1, b0)))], [], List.set (α := XC) (w ++ [(.inl (2, [.inl (cz, cz), .inl (z, z), .inl (tk, tk), .inl (h, h)]) : XC)]) b0 (.inl (0, fb.set 11 (.inr (.inr (1, w.length))))), 1, 4)) (q := _) rfl (by exact sy_put (ty := tyX0 11) (hlw _ _ _ wb) hlb rfl) ?_
  have hW3 : yheap yKD (ks ++ [21]) (List.set (α := XC) (w ++ [(.inl (2, [.inl (cz, cz), .inl (z, z), .inl (tk, tk), .inl (h, h)]) : XC)]) b0 (.inl (0, fb.set 11 (.inr (.inr (1, w.length)))))) := yheap_setf hW2 (hks _ _ hb) (show yKD 14 = some yK_14 from rfl) (hlw _ _ _ wb) (f := 11) rfl ⟨_, List.mem_cons_self, Or.inr ⟨w.length, rfl, kw⟩⟩ rfl
  have w3i : (List.set (α := XC) (w ++ [(.inl (2, [.inl (cz, cz), .inl (z, z), .inl (tk, tk), .inl (h, h)]) : XC)]) b0 (.inl (0, fb.set 11 (.inr (.inr (1, w.length))))))[i0]? = some (.inl (9, fs)) := by
    rw [List.getElem?_set_ne hne1]
    exact hlw _ _ _ hw0
  have w3p : (List.set (α := XC) (w ++ [(.inl (2, [.inl (cz, cz), .inl (z, z), .inl (tk, tk), .inl (h, h)]) : XC)]) b0 (.inl (0, fb.set 11 (.inr (.inr (1, w.length))))))[p0]? = some (.inr (6, el)) := by
    rw [List.getElem?_set_ne hne2]
    exact hlw _ _ _ wl
  have hbl : b0 < List.length (α := XC) (w ++ [(.inl (2, [.inl (cz, cz), .inl (z, z), .inl (tk, tk), .inl (h, h)]) : XC)]) := (List.getElem?_eq_some_iff.mp (hlw _ _ _ wb)).1
  have w3b : (List.set (α := XC) (w ++ [(.inl (2, [.inl (cz, cz), .inl (z, z), .inl (tk, tk), .inl (h, h)]) : XC)]) b0 (.inl (0, fb.set 11 (.inr (.inr (1, w.length))))))[b0]? = some (.inl (0, fb.set 11 (.inr (.inr (1, w.length))))) := List.getElem?_set_self hbl
  have g11 : (fb.set 11 (.inr (.inr (1, w.length))))[11]? = some (.inr (.inr (1, w.length))) := List.getElem?_set_self hlb
  have hnb : b0 ≠ w.length := fun e => by
    have := (List.getElem?_eq_some_iff.mp wb).1
    omega
  have w3w : (List.set (α := XC) (w ++ [(.inl (2, [.inl (cz, cz), .inl (z, z), .inl (tk, tk), .inl (h, h)]) : XC)]) b0 (.inl (0, fb.set 11 (.inr (.inr (1, w.length))))))[w.length]? = some (.inl (2, [.inl (cz, cz), .inl (z, z), .inl (tk, tk), .inl (h, h)])) := by
    rw [List.getElem?_set_ne hnb]
    exact yapp_at
  refine yreach.at (S' := (111, [(0, .inr (.inr (1, i0))), (1, .inl (b, b)), (2, .inr (.inr (1, b0)))], [.inr (.inr (1, i0))], List.set (α := XC) (w ++ [(.inl (2, [.inl (cz, cz), .inl (z, z), .inl (tk, tk), .inl (h, h)]) : XC)]) b0 (.inl (0, fb.set 11 (.inr (.inr (1, w.length))))), 1, 4)) (q := _) rfl rfl ?_
  refine yreach.at (S' := (114, [(0, .inr (.inr (1, i0))), (1, .inl (b, b)), (2, .inr (.inr (1, b0)))], [.inr (.inr (1, p0))], List.set (α := XC) (w ++ [(.inl (2, [.inl (cz, cz), .inl (z, z), .inl (tk, tk), .inl (h, h)]) : XC)]) b0 (.inl (0, fb.set 11 (.inr (.inr (1, w.length))))), 1, 4)) (q := _) rfl (sx_get w3i gl) ?_
  refine yreach.at (S' := (115, [(0, .inr (.inr (1, i0))), (1, .inl (b, b)), (2, .inr (.inr (1, b0)))], [.inr (.inr (1, i0)), .inr (.inr (1, p0))], List.set (α := XC) (w ++ [(.inl (2, [.inl (cz, cz), .inl (z, z), .inl (tk, tk), .inl (h, h)]) : XC)]) b0 (.inl (0, fb.set 11 (.inr (.inr (1, w.length))))), 1, 4)) (q := _) rfl rfl ?_
  refine yreach.at (S' := (118, [(0, .inr (.inr (1, i0))), (1, .inl (b, b)), (2, .inr (.inr (1, b0)))], [.inl (n, n), .inr (.inr (1, p0))], List.set (α := XC) (w ++ [(.inl (2, [.inl (cz, cz), .inl (z, z), .inl (tk, tk), .inl (h, h)]) : XC)]) b0 (.inl (0, fb.set 11 (.inr (.inr (1, w.length))))), 1, 4)) (q := _) rfl (sx_get w3i hn) ?_
  refine yreach.at (S' := (119, [(0, .inr (.inr (1, i0))), (1, .inl (b, b)), (2, .inr (.inr (1, b0)))], [.inr (.inr (1, b0)), .inl (n, n), .inr (.inr (1, p0))], List.set (α := XC) (w ++ [(.inl (2, [.inl (cz, cz), .inl (z, z), .inl (tk, tk), .inl (h, h)]) : XC)]) b0 (.inl (0, fb.set 11 (.inr (.inr (1, w.length))))), 1, 4)) (q := _) rfl rfl ?_
  refine yreach.at (S' := (122, [(0, .inr (.inr (1, i0))), (1, .inl (b, b)), (2, .inr (.inr (1, b0)))], [.inr (.inr (1, w.length)), .inl (n, n), .inr (.inr (1, p0))], List.set (α := XC) (w ++ [(.inl (2, [.inl (cz, cz), .inl (z, z), .inl (tk, tk), .inl (h, h)]) : XC)]) b0 (.inl (0, fb.set 11 (.inr (.inr (1, w.length))))), 1, 4)) (q := _) rfl (sx_get w3b g11) ?_
  have hnl : n.toNat < el.length := by
    rw [ll]
    show n.toNat < 40
    omega
  refine yreach.at (S' := (123, [(0, .inr (.inr (1, i0))), (1, .inl (b, b)), (2, .inr (.inr (1, b0)))], [], List.set (α := XC) (List.set (α := XC) (w ++ [(.inl (2, [.inl (cz, cz), .inl (z, z), .inl (tk, tk), .inl (h, h)]) : XC)]) b0 (.inl (0, fb.set 11 (.inr (.inr (1, w.length)))))) p0 (.inr (6, el.set n.toNat (.inr (.inr (1, w.length))))), 1, 4)) (q := _) rfl (by
    show xh_aast xTC 122 _ (.inr (.inr (1, w.length)) :: .inl (n, n) :: .inr (.inr (1, p0)) :: []) _ 1 4 = _
    unfold xh_aast
    dsimp only
    rw [if_pos ⟨rfl, rfl, rfl⟩, w3p, w3w]
    dsimp only
    rw [if_pos (show xTC 6 = some 2 from rfl), xwrite_ex hn0 hnl]) ?_
  have w4i : (List.set (α := XC) (List.set (α := XC) (w ++ [(.inl (2, [.inl (cz, cz), .inl (z, z), .inl (tk, tk), .inl (h, h)]) : XC)]) b0 (.inl (0, fb.set 11 (.inr (.inr (1, w.length)))))) p0 (.inr (6, el.set n.toNat (.inr (.inr (1, w.length))))))[i0]? = some (.inl (9, fs)) := by
    rw [List.getElem?_set_ne (fun e => hne3 e.symm)]
    exact w3i
  have hil : i0 < List.length (α := XC) (List.set (α := XC) (List.set (α := XC) (w ++ [(.inl (2, [.inl (cz, cz), .inl (z, z), .inl (tk, tk), .inl (h, h)]) : XC)]) b0 (.inl (0, fb.set 11 (.inr (.inr (1, w.length)))))) p0 (.inr (6, el.set n.toNat (.inr (.inr (1, w.length)))))) := (List.getElem?_eq_some_iff.mp w4i).1
  refine yreach.at (S' := (124, [(0, .inr (.inr (1, i0))), (1, .inl (b, b)), (2, .inr (.inr (1, b0)))], [.inr (.inr (1, i0))], List.set (α := XC) (List.set (α := XC) (w ++ [(.inl (2, [.inl (cz, cz), .inl (z, z), .inl (tk, tk), .inl (h, h)]) : XC)]) b0 (.inl (0, fb.set 11 (.inr (.inr (1, w.length)))))) p0 (.inr (6, el.set n.toNat (.inr (.inr (1, w.length))))), 1, 4)) (q := _) rfl rfl ?_
  refine yreach.at (S' := (125, [(0, .inr (.inr (1, i0))), (1, .inl (b, b)), (2, .inr (.inr (1, b0)))], [.inr (.inr (1, i0)), .inr (.inr (1, i0))], List.set (α := XC) (List.set (α := XC) (w ++ [(.inl (2, [.inl (cz, cz), .inl (z, z), .inl (tk, tk), .inl (h, h)]) : XC)]) b0 (.inl (0, fb.set 11 (.inr (.inr (1, w.length)))))) p0 (.inr (6, el.set n.toNat (.inr (.inr (1, w.length))))), 1, 4)) (q := _) rfl rfl ?_
  refine yreach.at (S' := (128, [(0, .inr (.inr (1, i0))), (1, .inl (b, b)), (2, .inr (.inr (1, b0)))], [.inl (n, n), .inr (.inr (1, i0))], List.set (α := XC) (List.set (α := XC) (w ++ [(.inl (2, [.inl (cz, cz), .inl (z, z), .inl (tk, tk), .inl (h, h)]) : XC)]) b0 (.inl (0, fb.set 11 (.inr (.inr (1, w.length)))))) p0 (.inr (6, el.set n.toNat (.inr (.inr (1, w.length))))), 1, 4)) (q := _) rfl (sx_get w4i hn) ?_
  refine yreach.at (S' := (129, [(0, .inr (.inr (1, i0))), (1, .inl (b, b)), (2, .inr (.inr (1, b0)))], [.inl (1, 1), .inl (n, n), .inr (.inr (1, i0))], List.set (α := XC) (List.set (α := XC) (w ++ [(.inl (2, [.inl (cz, cz), .inl (z, z), .inl (tk, tk), .inl (h, h)]) : XC)]) b0 (.inl (0, fb.set 11 (.inr (.inr (1, w.length)))))) p0 (.inr (6, el.set n.toNat (.inr (.inr (1, w.length))))), 1, 4)) (q := _) rfl rfl ?_
  refine yreach.at (S' := (130, [(0, .inr (.inr (1, i0))), (1, .inl (b, b)), (2, .inr (.inr (1, b0)))], [.inl (n + 1, n + 1), .inr (.inr (1, i0))], List.set (α := XC) (List.set (α := XC) (w ++ [(.inl (2, [.inl (cz, cz), .inl (z, z), .inl (tk, tk), .inl (h, h)]) : XC)]) b0 (.inl (0, fb.set 11 (.inr (.inr (1, w.length)))))) p0 (.inr (6, el.set n.toNat (.inr (.inr (1, w.length))))), 1, 4)) (q := _) rfl (sx_iadd (by omega)) ?_
  refine yreach.at (S' := (133, [(0, .inr (.inr (1, i0))), (1, .inl (b, b)), (2, .inr (.inr (1, b0)))], [], List.set (α := XC) (List.set (α := XC) (List.set (α := XC) (w ++ [(.inl (2, [.inl (cz, cz), .inl (z, z), .inl (tk, tk), .inl (h, h)]) : XC)]) b0 (.inl (0, fb.set 11 (.inr (.inr (1, w.length)))))) p0 (.inr (6, el.set n.toNat (.inr (.inr (1, w.length)))))) i0 (.inl (9, fs.set 11 (.inl (n + 1, n + 1)))), 1, 4)) (q := _) rfl (by exact sy_put (ty := tyX9 11) w4i f0l rfl) ?_
  refine yreach.at (S' := (134, [(0, .inr (.inr (1, i0))), (1, .inl (b, b)), (2, .inr (.inr (1, b0)))], [.inr (.inr (1, i0))], List.set (α := XC) (List.set (α := XC) (List.set (α := XC) (w ++ [(.inl (2, [.inl (cz, cz), .inl (z, z), .inl (tk, tk), .inl (h, h)]) : XC)]) b0 (.inl (0, fb.set 11 (.inr (.inr (1, w.length)))))) p0 (.inr (6, el.set n.toNat (.inr (.inr (1, w.length)))))) i0 (.inl (9, fs.set 11 (.inl (n + 1, n + 1)))), 1, 4)) (q := _) rfl rfl ?_
  refine yreach.at (S' := (137, [(0, .inr (.inr (1, i0))), (1, .inl (b, b)), (2, .inr (.inr (1, b0)))], [.inl (n + 1, n + 1)], List.set (α := XC) (List.set (α := XC) (List.set (α := XC) (w ++ [(.inl (2, [.inl (cz, cz), .inl (z, z), .inl (tk, tk), .inl (h, h)]) : XC)]) b0 (.inl (0, fb.set 11 (.inr (.inr (1, w.length)))))) p0 (.inr (6, el.set n.toNat (.inr (.inr (1, w.length)))))) i0 (.inl (9, fs.set 11 (.inl (n + 1, n + 1)))), 1, 4)) (q := _) rfl (sx_get (List.getElem?_set_self hil) (List.getElem?_set_self f0l)) ?_
  refine yreach.at (S' := (138, [(0, .inr (.inr (1, i0))), (1, .inl (b, b)), (2, .inr (.inr (1, b0)))], [.inl (1, 1), .inl (n + 1, n + 1)], List.set (α := XC) (List.set (α := XC) (List.set (α := XC) (w ++ [(.inl (2, [.inl (cz, cz), .inl (z, z), .inl (tk, tk), .inl (h, h)]) : XC)]) b0 (.inl (0, fb.set 11 (.inr (.inr (1, w.length)))))) p0 (.inr (6, el.set n.toNat (.inr (.inr (1, w.length)))))) i0 (.inl (9, fs.set 11 (.inl (n + 1, n + 1)))), 1, 4)) (q := _) rfl rfl ?_
  obtain ⟨r, r1, r2, r3⟩ := xsub_ex (n + 1) 1
  refine yreach.at (S' := (139, [(0, .inr (.inr (1, i0))), (1, .inl (b, b)), (2, .inr (.inr (1, b0)))], [.inl (r, r)], List.set (α := XC) (List.set (α := XC) (List.set (α := XC) (w ++ [(.inl (2, [.inl (cz, cz), .inl (z, z), .inl (tk, tk), .inl (h, h)]) : XC)]) b0 (.inl (0, fb.set 11 (.inr (.inr (1, w.length)))))) p0 (.inr (6, el.set n.toNat (.inr (.inr (1, w.length)))))) i0 (.inl (9, fs.set 11 (.inl (n + 1, n + 1)))), 1, 4)) (q := _) rfl (by
    show (some (.inl (139, _, .inl (xsub (n + 1, n + 1) (1, 1)) :: _, _, 1, 4)) : Option XR) = _
    rw [r1]) ?_
  refine yreach.ret (q := (some (.inl (r, r)), List.set (α := XC) (List.set (α := XC) (List.set (α := XC) (w ++ [(.inl (2, [.inl (cz, cz), .inl (z, z), .inl (tk, tk), .inl (h, h)]) : XC)]) b0 (.inl (0, fb.set 11 (.inr (.inr (1, w.length)))))) p0 (.inr (6, el.set n.toNat (.inr (.inr (1, w.length)))))) i0 (.inl (9, fs.set 11 (.inl (n + 1, n + 1)))), 1, 4)) ((xstep_at rfl).trans (by
    show xh_ret 0 (some .int) [.inl (r, r)] _ 1 4 = _
    unfold xh_ret
    dsimp only
    rw [if_pos ⟨rfl, rfl⟩])) ⟨Nat.le_refl _, Nat.le_refl _, ⟨r, rfl, r2⟩, [21], (fun k hk => by
      rw [List.mem_singleton.mp hk]
      rfl), ?_, ?_⟩
  · have h4a : yheap0 yKD (ks ++ [21]) (List.set (α := XC) (List.set (α := XC) (w ++ [(.inl (2, [.inl (cz, cz), .inl (z, z), .inl (tk, tk), .inl (h, h)]) : XC)]) b0 (.inl (0, fb.set 11 (.inr (.inr (1, w.length)))))) p0 (.inr (6, el.set n.toNat (.inr (.inr (1, w.length)))))) := yheap0_seta hW3 (hks _ _ kp) (show yKD 20 = some yK_20 from rfl) w3p ⟨_, List.mem_cons_self, Or.inr ⟨w.length, rfl, kw⟩⟩
    exact yheap0_setf' h4a (hks _ _ hi) (show yKD 0 = some yK_0 from rfl) w4i (f := 11) rfl ⟨_, List.mem_cons_self, n + 1, rfl, by omega, by omega, by omega, by omega⟩
  · refine ysp_looks hW3.2 (fun p p' h1 h2 => ?_) (hks _ _ hi) (hks _ _ kp) w3i w3p hn0 hnl hn (fun e => by cases e)
    have lt : ∀ (p : Nat), (ks ++ [21])[p]? = some 20 → ks[p]? = some 20 := fun p hp => by
      by_cases hlt : p < ks.length
      · rw [List.getElem?_append_left hlt] at hp
        exact hp
      · rw [List.getElem?_append_right (by omega)] at hp
        by_cases h0 : p - ks.length = 0
        · rw [h0] at hp
          cases hp
        · rw [List.getElem?_eq_none (by simp; omega)] at hp
          cases hp
    exact hu p p' (lt p h1) (lt p' h2)
end YH
