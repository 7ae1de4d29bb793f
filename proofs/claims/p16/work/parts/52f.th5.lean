/-! ===== by hand: a walk that ends at a cut ===== -/
theorem yreach.mono {f : XS → Option XR} {J : XS → XS → Prop} {P Q : Option XV × XW × Nat × Nat → Prop} (hPQ : ∀ q, P q → Q q) {S : XS} (h : yreach f J P S) : yreach f J Q S := by
  obtain ⟨q, h1, h2⟩ := h
  exact ⟨q, hPQ q h1, h2⟩
theorem ygoodO_mono {f : XS → Option XR} {J : XS → XS → Prop} {P Q : Option XV × XW × Nat × Nat → Prop} (hPQ : ∀ q, P q → Q q) {KD : Nat → Option YK} {ks : List Nat} {ow : XW → Prop} {n0 : Nat} {r0 : YR} : ∀ {o : YO}, ygoodO f J P KD ks ow n0 r0 o → ygoodO f J Q KD ks ow n0 r0 o
  | .inl _, h => fun h0 r w S hr hS => (h h0 r w S hr hS).mono hPQ
  | .inr (none, _), h => fun h0 r w hr h3 h4 => hPQ _ (h h0 r w hr h3 h4)
  | .inr (some _, _), h => fun h0 r w x hr h3 h4 hv => hPQ _ (h h0 r w x hr h3 h4 hv)
section YH
variable {l : Launch} {D : va_G} {tA : Nat → ClassId} {ex : List Nat} {sc : List XV}
theorem yco_ofA {M : XM} {j : Nat} (hM : xMT j = some M) {as : List XV} {w : XW} {Post : Option XV × XW × Nat × Nat → Prop} (hl : (as.map xcat).sum ≤ xm_l M) (h0 : ∀ q, Post q → q.2.2.1 ≤ xm_k M ∧ q.2.2.2 ≤ xm_n M) (h : yreach (ySt sc M) (yJm l D tA ex sc M) Post (0, xk_args 0 as, [], w, 0, 0)) : ∃ q, XMet l D vwCl (tysX tA) tA ex (xSTX ++ [sc]) xSV xNW xNF xTs M as w q.1 q.2.1 ∧ Post q := by
  obtain ⟨q, hq, hrun⟩ := h
  obtain ⟨ro, w', k2, n2⟩ := q
  exact ⟨(ro, w', k2, n2), xmet_ofK x_good (x_tysX tA) (x_tysY tA) (x_tysC tA) x_ok (cf := yno) (fun j N as w ro w' _ h => by cases h) hM hl (h0 _ hq) (Or.inr rfl) hrun, hq⟩
/-- what a method that gives an int answers -/
def yiA : List YA := [(some (.inl ytop), [], none)]
theorem yexs {sc : List XV} (j : Nat) (es : List XV) (hj : xSTX[j]? = some es) : (xSTX ++ [sc])[j]? = some es := by
  rw [List.getElem?_append_left (List.getElem?_eq_some_iff.mp hj).1]
  exact hj
/-- from a method's entry to its answers, or to a cut behind which it goes on by hand -/
theorem ywalk_exit {M : XM} {CT : Nat → List YC} (hCT : ∀ (j : Nat) (N : XM) (C : YC), xMT j = some N → C ∈ CT j → yco l D tA ex sc N C) {pre : List YE} {Cs : List YCut} {fu mk mn : Nat} (hchk : ystp yKD 0 CT xMT xFT xSTX M (ypst1 yiA) (yexp yKD 0 CT xMT xFT xSTX M (ypst1 yiA) Cs none fu) (yent (pre, ([], []), 0, yiA) []) = true) {ks : List Nat} {as : List XV} {w : XW} (ha : yargs ks pre as) (h4 : yheap yKD ks w) (hcut : ∀ Cx ∈ Cs, ∀ (r : YR) (w1 : XW) (S : XS), ysat yKD ks (yow ks 0 w) w1 r (yst Cx) S → yreach (ySt sc M) (yJm l D tA ex sc M) (ypA ks mk mn) S) : yreach (ySt sc M) (yJm l D tA ex sc M) (ypA ks mk mn) (0, xk_args 0 as, [], w, 0, 0) := by
  have hra : ∀ (i : Nat) (x : XV), as[i]? = some x → yr0 as i = x := fun i x hx => by
    unfold yr0
    rw [hx]
  obtain ⟨a1, a2, a3⟩ := yen_ok (r := yr0 as) (j := 0) (k := 0) ha (fun i x hx => by
    rw [Nat.zero_add]
    exact hra i x hx)
  have hP : ∀ ro K, ypst1 yiA ro K = true → ygoodO (ySt sc M) (yJm l D tA ex sc M) (ypA ks mk mn) yKD ks (yow ks 0 w) pre.length (yr0 as) (.inr (ro, K)) := fun ro K hh => ygoodO_mono (P := ypost yKD ks (fun _ => 0) 0 w yiA) (fun q hq => by
    obtain ⟨p1, p2, _, _, _, _, A, hA, hans, _⟩ := hq
    obtain ⟨ro, w', k2, n2⟩ := q
    cases p1
    rw [List.mem_singleton.mp hA] at hans
    obtain ⟨x, e1, z, e2, _, _, e3, e4⟩ := hans
    refine ⟨Nat.zero_le _, Nat.zero_le _, ⟨z, e1.trans (by rw [e2]), e3, e4⟩, [], (fun k hk => by cases hk), ?_⟩
    rw [List.append_nil]
    exact p2) (ypst1_ok hh)
  have key := ystp_ok (n0 := pre.length) (r0 := yr0 as) yexs yow_md hCT hP (yexp_ok (n0 := pre.length) (r0 := yr0 as) (m0 := 0) yexs yow_md hCT hP (fun m hm => by cases hm) (fun C hC r w1 S hS _ => hcut C hC r w1 S hS) fu) hchk
  refine key (by show pre.length ≤ (pre ++ []).length; rw [List.append_nil]; exact Nat.le_refl _) (yr0 as) w _ (fun _ _ => rfl) ⟨xk_args 0 as, [], rfl, a1, rfl, ⟨fun s e hs => ?_, (fun g hg => by cases hg), (fun q hq => by cases hq), (fun q hq => by cases hq), (fun q hq => by cases hq)⟩, h4, (fun h => by cases h), (fun h => by cases h), (fun h => by cases h), fun h => by cases h⟩
  have hs : (pre ++ [])[s]? = some e := hs
  rw [List.append_nil] at hs
  obtain ⟨x, b1, b2⟩ := yargs_at ha hs
  rw [hra s x b1]
  exact b2
def ylkC : YCut := (76, [(0, 1, (1, 0, 0)), (1, 1, (0, 0, 5)), (2, 1, (1, 14, 0))], [(0, 11, (0, 0, 39))], [], (0, []), [])
def ylkL : List YD := [yD_32, yD_43]
theorem ylk_chk : ystp yKD 0 (yct yB ylkL) xMT xFT xSTX xm72 (ypst1 yiA) (yexp yKD 0 (yct yB ylkL) xMT xFT xSTX xm72 (ypst1 yiA) [ylkC] none 400) (yent ([(1, 0, 0), ytop], ([], []), 0, yiA) []) = true := by decide +kernel
/-- look: every run of it comes to an end, with at most one cell more -/
theorem ylook (hCT : ∀ (j : Nat) (N : XM) (C : YC), xMT j = some N → C ∈ yct yB ylkL j → yco l D tA ex sc N C) {ks : List Nat} {w : XW} (h4 : yheap yKD ks w) (hu : ∀ p p' : Nat, ks[p]? = some 20 → ks[p']? = some 20 → p = p') {i0 : Nat} (hi : ks[i0]? = some 0) {b : Int} (hb : yrg b) : ∃ q, XMet l D vwCl (tysX tA) tA ex (xSTX ++ [sc]) xSV xNW xNF xTs xm72 [.inr (.inr (1, i0)), .inl (b, b)] w q.1 q.2.1 ∧ ypA ks 1 4 q := by
  refine yco_ofA (j := 72) rfl (Nat.le_of_ble_eq_true rfl) (fun q hq => ⟨hq.1, hq.2.1⟩) (ywalk_exit hCT ylk_chk ⟨_, _, rfl, Or.inr ⟨i0, rfl, hi⟩, _, _, rfl, ytop_in hb, rfl⟩ h4 (fun C hC r w1 S hS => ?_))
  rw [List.mem_singleton.mp hC] at hS
  obtain ⟨lv, st, e0, ⟨v0, l0, e1, ⟨a1, q1, _⟩, v1, l1, e2, a2, v2, l2, e3, ⟨a3, q3, _⟩, e4⟩, h2, h3, h41, _⟩ := hS
  have h2 : st = [] := h2
  have e4 : l2 = [] := e4
  subst h2
  subst e4
  subst e3
  subst e2
  subst e1
  subst e0
  obtain ⟨j0, g1, g2⟩ := yrf (h3.1 0 (1, 0, 0) rfl)
  obtain ⟨z, g3, g4, g5, g6, g7⟩ := h3.1 1 (0, 0, 5) rfl
  obtain ⟨j2, g8, g9⟩ := yrf (h3.1 2 (1, 14, 0) rfl)
  obtain ⟨x, f1, f2⟩ := h3.2.2.1 ((0, 11), ysv (0, 0, 39) 3) List.mem_cons_self
  obtain ⟨n, n1, n2, n3, _⟩ := h3.1 3 (0, 0, 39) rfl
  obtain ⟨c, fs, d1, d2⟩ := ygf_ref g1 (by decide) f1
  obtain ⟨fs', d3, _⟩ := yheap_f h41 g2 (show yKD 0 = some yK_0 from rfl)
  rw [d1] at d3
  cases d3
  have ex : x = .inl (n, n) := by
    have e6 : x = .inl (yev (yi r) (ysym 3), yev (yi r) (ysym 3)) := f2.1
    rw [e6, ysym_ev, yi_int n1]
  rw [ex] at d2
  rw [a1, g1, a3, g8]
  have e5 : v1 = .inl (z, z) := by
    have e6 : v1 = .inl (0 + (1 * yi r 1 + 0), 0 + (1 * yi r 1 + 0)) := a2.1
    rw [e6, yi_int g3, show 0 + (1 * z + 0) = z by omega]
  rw [e5]
  exact ylk_76 h41 hu g2 g9 d1 d2 n2 n3
end YH
