/-! ===== a contract out of a walk, the theorem ===== -/
/-- the kind of a symbol that isn't null -/
def ykn (K : YF) (s : Nat) : Option Nat := match (yf_e K)[s]? with
  | some (1, k, n) => if n ≠ 1 then some k.toNat else none
  | _ => none
theorem ykn_ok {ks : List Nat} {w : XW} {r : YR} {K : YF} (h : yknow ks w r K) {s k : Nat} (hs : ykn K s = some k) : ∃ i, r s = .inr (.inr (1, i)) ∧ ks[i]? = some k := by
  unfold ykn at hs
  split at hs
  · rename_i k' n he
    split at hs
    · rename_i hn
      cases hs
      exact (h.1 s _ he).resolve_left (fun hh => hn hh.1)
    · cases hs
  · cases hs
/-- a row's places are all ways, by what was read -/
def ydw (KD : Nat → Option YK) (K : YF) (s : Nat) : Bool := decide (yki K s = some 3) && ((match KD 4 with
  | some (.inr _) => true
  | _ => false) && (yf_m K).any (fun p => decide (p.1 = (s, 0)) && (match p.2 with
  | .inr (.inr (0, q)) => decide (ykn K q = some 4) && (yf_m K).any (fun m => decide (m.1 = (s, 1)) && (match m.2 with
    | .inl n => (match yub (yf_e K) n with
      | some u => decide (u ≤ 40) && (List.range u.toNat).all (fun (j : Nat) => (yf_a K).any (fun a => decide (a.1.1 = q) && (decide (a.1.2 = ycst (j : Int)) && (match a.2 with
        | .inl v => yprv K v && yprv K (ydf (ycst 4) v 0)
        | _ => false))))
      | none => false)
    | _ => false))
  | _ => false)))
/-- so are those of every row of a set -/
def ydp (K : YF) (s : Nat) : Bool := (match (yf_e K)[s]? with
  | some (0, _, _) => true
  | _ => false) && (List.range 6).all (fun (j : Nat) => (yf_a K).any (fun a => decide (a.1 = (s, ycst (j : Int)) ∧ a.2 = .inl (ycst 0))) || (yf_a K).any (fun a => decide (yki K a.1.1 = some 1 ∧ a.1.2 = ycst (j : Int)) && (match a.2 with
    | .inr (.inr (0, q)) => (yf_m K).any (fun m => decide (m.1 = (q, 100)) && yge1 K m.2)
    | _ => false)))
/-- a row of the model has at most 8 places -/
def yds (K : YF) (s : Nat) : Bool := (yf_a K).any (fun a => decide (yki K a.1.1 = some 32 ∧ a.1.2 = ysym s) && (match a.2 with
  | .inl v => yprv K (ydf (ycst 8) v 0)
  | _ => false))
def ydc (KD : Nat → Option YK) (K : YF) (q : (Nat × Nat) × YV) : Bool := (decide (q.1.2 = 100) && ydw KD K q.1.1) || ((decide (q.1.2 = 102) && ydp K q.1.1) || (decide (q.1.2 = 104) && yds K q.1.1))
def ydf1 (v : YV) : YL := match v with
  | .inl x => ydf x (ycst 1) 0
  | _ => ycst 0
/-- what follows from what was read -/
def yder (KD : Nat → Option YK) (K : YF) : YF := (yf_e K, ((yf_m K).filter (ydc KD K)).map (fun q => ydf1 q.2) ++ yf_f K, K.2.2)
section YI
variable {KD : Nat → Option YK} {ks : List Nat} {w : XW} {r : YR} {K : YF}
theorem yki_sym (h : yknow ks w r K) {s k : Nat} (hs : yki K s = some k) {g : Nat} {x : XV} (hx : ygf ks w (r s) g x) : ∃ i, r s = .inr (.inr (1, i)) ∧ ks[i]? = some k := by
  unfold yki at hs
  split at hs
  · rename_i k' n he
    cases hs
    rcases h.1 s _ he with ⟨_, e1⟩ | ⟨j, e1, e2⟩
    · rw [e1] at hx
      exact hx.elim
    · exact ⟨j, e1, e2⟩
  · cases hs
theorem ydw_ok (h3 : yknow ks w r K) (h4 : yheap KD ks w) {s i : Nat} (hs : r s = .inr (.inr (1, i))) (h : ydw KD K s = true) : yways ks w i := by
  unfold ydw at h
  rw [Bool.and_eq_true, Bool.and_eq_true] at h
  obtain ⟨c1, c0, c2⟩ := h
  have c1 := of_decide_eq_true c1
  obtain ⟨p, hp, c2⟩ := List.any_eq_true.mp c2
  rw [Bool.and_eq_true] at c2
  have p1 : p.1 = (s, 0) := of_decide_eq_true c2.1
  obtain ⟨x, b1, b2⟩ := h3.2.2.1 p hp
  rw [p1] at b1
  have b1 : ygf ks w (r s) 0 x := b1
  obtain ⟨c, fs, e1, e2⟩ := ygf_ref hs (by decide) b1
  have c3 := c2.2
  split at c3
  · rename_i q hq
    rw [hq] at b2
    rw [Bool.and_eq_true] at c3
    have k1 := of_decide_eq_true c3.1
    obtain ⟨m, hm, c4⟩ := List.any_eq_true.mp c3.2
    rw [Bool.and_eq_true] at c4
    have m1 : m.1 = (s, 1) := of_decide_eq_true c4.1
    obtain ⟨y, b3, b4⟩ := h3.2.2.1 m hm
    rw [m1] at b3
    have b3 : ygf ks w (r s) 1 y := b3
    obtain ⟨c', fs', e3, e4⟩ := ygf_ref hs (by decide) b3
    rw [e1] at e3
    cases e3
    have c5 := c4.2
    split at c5
    · rename_i n hn
      rw [hn] at b4
      split at c5
      · rename_i u hu
        rw [Bool.and_eq_true] at c5
        have hu2 := yub_ok h3.ok hu
        -- the row's array
        have hxq : x = r q := b2.1
        obtain ⟨iq, hiq, hk4⟩ := ykn_ok h3 k1
        obtain ⟨d, cell, hd, hw4, hcell⟩ := h4.1.2 iq 4 hk4
        rw [hd] at c0
        match d, c0, cell, hw4, hcell with
        | .inr dd, _, .inr (t, es), hw4, _ =>
          refine ⟨yki_ok h3 c1 hs, c, fs, iq, yev (yi r) n, t, es, e1, by rw [e2, hxq, hiq], by rw [e4, b4.1], hk4, hw4, fun j hj => ?_⟩
          have hju : j < u.toNat := by omega
          obtain ⟨a, ha, c6⟩ := List.any_eq_true.mp (List.all_eq_true.mp c5.2 j (List.mem_range.mpr hju))
          rw [Bool.and_eq_true, Bool.and_eq_true] at c6
          obtain ⟨a1, a2, a3⟩ := c6
          have a1 := of_decide_eq_true a1
          have a2 := of_decide_eq_true a2
          obtain ⟨z, z1, z2⟩ := h3.2.2.2.1 a ha
          rw [a1, a2, ycst_ev] at z1
          obtain ⟨_, t', es', z3, z4⟩ := yga_ref z1 hiq
          rw [hw4] at z3
          cases z3
          split at a3
          · rename_i v hv
            rw [hv] at z2
            rw [Bool.and_eq_true] at a3
            have v1 := yprv_ok h3 a3.1
            have v2 := yprv_ok h3 a3.2
            rw [ydf_ev, ycst_ev] at v2
            refine ⟨yev (yi r) v, ?_, v1, by omega⟩
            rw [show ((j : Int)).toNat = j by omega] at z4
            rw [z4, z2.1]
          · cases a3
        | .inr dd, _, .inl o, _, hcell => exact hcell.elim
        | .inl dd, c0, _, _, _ => cases c0
      · cases c5
    · cases c5
  · cases c3
theorem ydp_ok (h3 : yknow ks w r K) (h4 : yheap KD ks w) {s : Nat} {v : Int} (hs : r s = .inl (v, v)) (h : ydp K s = true) : yplan ks w v := by
  unfold ydp at h
  rw [Bool.and_eq_true] at h
  intro p t es k1 k2 j hj hb q hq hq3
  have h5 := List.all_eq_true.mp h.2 j (List.mem_range.mpr hj)
  rw [Bool.or_eq_true] at h5
  rcases h5 with h5 | h5
  · obtain ⟨a, ha, h6⟩ := List.any_eq_true.mp h5
    obtain ⟨a1, a2⟩ := of_decide_eq_true h6
    obtain ⟨x, b1, b2⟩ := h3.2.2.2.1 a ha
    rw [a1] at b1
    rw [a2] at b2
    have b1 : yga w (r s) (yev (yi r) (ycst (j : Int))) x := b1
    rw [hs, ycst_ev] at b1
    have b1 : x = .inl (ybit v (j : Int), ybit v (j : Int)) := b1
    have b2 := b2.1
    rw [b1, hb, ycst_ev] at b2
    cases b2
  · obtain ⟨a, ha, h6⟩ := List.any_eq_true.mp h5
    rw [Bool.and_eq_true] at h6
    obtain ⟨a1, a2⟩ := of_decide_eq_true h6.1
    obtain ⟨x, b1, b2⟩ := h3.2.2.2.1 a ha
    obtain ⟨ia, ta, ea, _, ka, wa, _, ra⟩ := yki_ref h3 a1 b1
    have e1 := h4.2.1 1 (Or.inl rfl) p ia k1 ka
    subst e1
    rw [k2] at wa
    cases wa
    rw [a2, ycst_ev, show ((j : Int)).toNat = j by omega, hq] at ra
    have h7 := h6.2
    split at h7
    · rename_i q' hq'
      rw [hq'] at b2
      obtain ⟨m, hm, h8⟩ := List.any_eq_true.mp h7
      rw [Bool.and_eq_true] at h8
      have m1 : m.1 = (q', 100) := of_decide_eq_true h8.1
      obtain ⟨y, y1, y2⟩ := h3.2.2.1 m hm
      rw [m1] at y1
      have y1 : ygf ks w (r q') 100 y := y1
      rw [← b2.1, ← Option.some.inj ra] at y1
      obtain ⟨z, z1, z2⟩ := yge1_ok h3 y2 h8.2
      have y1 : y01 (yways ks w q) y := by
        rcases y1 with ⟨hh, _⟩ | ⟨_, hh⟩ | ⟨hh, _⟩ | ⟨hh, _⟩
        · omega
        · exact hh
        · omega
        · omega
      obtain ⟨z', z3, _, _, z6⟩ := y1
      rw [z1] at z3
      have ez : z = z' := congrArg (fun u => match u with
        | .inl q => q.1
        | _ => 0) z3
      exact z6.mp (by omega)
    · cases h7
theorem yds_ok (h3 : yknow ks w r K) (h4 : yheap KD ks w) {s : Nat} {v : Int × Int} (hs : r s = .inl v) (h : yds K s = true) : ysz ks w v.1 := by
  intro p t es z k1 k2 k3 k4
  obtain ⟨a, ha, h6⟩ := List.any_eq_true.mp h
  rw [Bool.and_eq_true] at h6
  obtain ⟨a1, a2⟩ := of_decide_eq_true h6.1
  obtain ⟨x, b1, b2⟩ := h3.2.2.2.1 a ha
  obtain ⟨ia, ta, ea, _, ka, wa, _, ra⟩ := yki_ref h3 a1 b1
  have e1 := h4.2.1 32 (Or.inr (Or.inl rfl)) p ia k1 ka
  subst e1
  rw [k2] at wa
  cases wa
  have e2 : yi r s = v.1 := by
    unfold yi
    rw [hs]
  rw [a2, ysym_ev, e2, k4] at ra
  have h7 := h6.2
  split at h7
  · rename_i y hy
    rw [hy] at b2
    have c1 := yprv_ok h3 h7
    rw [ydf_ev, ycst_ev] at c1
    rw [b2.1] at ra
    have : z = yev (yi r) y := congrArg (fun u => match u with
      | some (.inl q) => q.1
      | _ => 0) ra
    omega
  · cases h7
theorem yder_ok (h3 : yknow ks w r K) (h4 : yheap KD ks w) : yknow ks w r (yder KD K) := by
  refine ⟨h3.1, fun g hg => ?_, h3.2.2⟩
  have hg : g ∈ ((yf_m K).filter (ydc KD K)).map (fun q => ydf1 q.2) ++ yf_f K := hg
  rcases List.mem_append.mp hg with hg | hg
  · obtain ⟨q, hq, e⟩ := List.mem_map.mp hg
    obtain ⟨q1, q2⟩ := List.mem_filter.mp hq
    obtain ⟨x, b1, b2⟩ := h3.2.2.1 q q1
    have e : ydf1 q.2 = g := e
    rw [← e]
    unfold ydc at q2
    rw [Bool.or_eq_true, Bool.or_eq_true, Bool.and_eq_true, Bool.and_eq_true, Bool.and_eq_true] at q2
    have hx : ∃ z, x = .inl (z, z) ∧ 1 ≤ z := by
      rcases q2 with ⟨q2, q3⟩ | ⟨q2, q3⟩ | ⟨q2, q3⟩
      · have q2 := of_decide_eq_true q2
        rw [q2] at b1
        have hk : yki K q.1.1 = some 3 := by
          unfold ydw at q3
          rw [Bool.and_eq_true] at q3
          exact of_decide_eq_true q3.1
        obtain ⟨i, i1, i2⟩ := yki_sym h3 hk b1
        rw [i1] at b1
        have hw := ydw_ok h3 h4 i1 q3
        rcases b1 with ⟨hh, _⟩ | ⟨_, z, z1, _, _, z4⟩ | ⟨hh, _⟩ | ⟨hh, _⟩
        · omega
        · exact ⟨z, z1, z4.mpr hw⟩
        · omega
        · omega
      · have q2 := of_decide_eq_true q2
        rw [q2] at b1
        have hk : ∃ v, r q.1.1 = .inl (v, v) := by
          unfold ydp at q3
          rw [Bool.and_eq_true] at q3
          have q4 := q3.1
          split at q4
          · rename_i he
            obtain ⟨v, v1, _⟩ := h3.1 q.1.1 _ he
            exact ⟨v, v1⟩
          · cases q4
        obtain ⟨v, v1⟩ := hk
        rw [v1] at b1
        have hw := ydp_ok h3 h4 v1 q3
        obtain ⟨_, z, z1, _, _, z4⟩ := b1.resolve_right (fun hh => absurd hh.1 (by decide))
        exact ⟨z, z1, z4.mpr hw⟩
      · have q2 := of_decide_eq_true q2
        rw [q2] at b1
        obtain ⟨v, v1, z, z1, _, _, z4⟩ := ygf_104 b1
        exact ⟨z, z1, z4.mpr (yds_ok h3 h4 v1 q3)⟩
    obtain ⟨z, rfl, hz⟩ := hx
    match hv : q.2, b2 with
    | .inl y, b2 =>
      show 0 ≤ yev (yi r) (ydf y (ycst 1) 0)
      rw [ydf_ev, ycst_ev]
      have : z = yev (yi r) y := congrArg (fun u => match u with
        | .inl q => q.1
        | _ => 0) b2.1
      omega
    | .inr (.inl y), b2 =>
      show 0 ≤ yev (yi r) (ycst 0)
      rw [ycst_ev]
      decide
    | .inr (.inr y), b2 =>
      show 0 ≤ yev (yi r) (ycst 0)
      rw [ycst_ev]
      decide
  · exact h3.2.1 g hg
end YI
/-- the answer is one of those told: from the entry (numbers of the arguments are known), from a cut -/
def ypa0 (n : Nat) (K : YF) (A : YA) (ro : Option YV) : Bool := decide (A.2.2 = none) && (A.2.1.all (fun g => ylin n g && yprv K g) && (match A.1, ro with
  | none, none => true
  | some (.inl e), some v => yeck K e v
  | some (.inr x), some (.inl y) => ylin n x && (decide (x = y) || (yprv K (ydf x y 0) && yprv K (ydf y x 0)))
  | _, _ => false))
def ypst0 (KD : Nat → Option YK) (n : Nat) (As : List YA) (ro : Option YV) (K : YF) : Bool := As.any (fun A => ypa0 n K A ro || ypa0 n (yder KD K) A ro)
def ypa1 (K : YF) (A : YA) (ro : Option YV) : Bool := decide (A.2.1 = [] ∧ A.2.2 = none) && (match A.1, ro with
  | none, none => true
  | some (.inl e), some v => yeck K e v
  | some (.inr x), some (.inl y) => decide (x.2 = []) && (decide (x = y) || (yprv K (ydf x y 0) && yprv K (ydf y x 0)))
  | _, _ => false)
def ypst1 (As : List YA) (ro : Option YV) (K : YF) : Bool := As.any (fun A => ypa1 K A ro)
def ypost (KD : Nat → Option YK) (ks : List Nat) (nu : Nat → Int) (mo : Nat) (w0 : XW) (As : List YA) (q : Option XV × XW × Nat × Nat) : Prop := q.2.2 = (0, 0) ∧ yheap KD ks q.2.1 ∧ (mo = 1 → q.2.1 = w0) ∧ (mo = 2 → yrows ks w0 q.2.1) ∧ (mo = 3 → yfix ks w0 q.2.1) ∧ (mo = 4 → yibs ks w0 q.2.1) ∧ ∃ A ∈ As, yans ks nu A.1 q.1 ∧ (∀ g ∈ A.2.1, 0 ≤ yev nu g) ∧ ybt nu A.2.2
def yow (ks : List Nat) (mo : Nat) (w0 : XW) (w : XW) : Prop := (mo = 1 → w = w0) ∧ (mo = 2 → yrows ks w0 w) ∧ (mo = 3 → yfix ks w0 w) ∧ (mo = 4 → yibs ks w0 w)
theorem yow_md {ks : List Nat} {mo : Nat} {w0 : XW} : ymd mo ks (yow ks mo w0) := ⟨fun h w => ⟨fun h1 => by omega, fun h2 => by omega, fun h3 => by omega, fun h4 => by omega⟩, fun h w w' hr hw => ⟨fun h1 => by omega, fun h2 => (hw.2.1 h2).trans hr, fun h3 => by omega, fun h4 => by omega⟩, fun h w w' hr hw => ⟨fun h1 => by omega, fun h2 => by omega, fun h3 i k hi hk => (hr i k hi hk).trans (hw.2.2.1 h3 i k hi hk), fun h4 => by omega⟩, fun h w w' hr hw => ⟨fun h1 => by omega, fun h2 => by omega, fun h3 => by omega, fun h4 i k hi hk => (hr i k hi hk).trans (hw.2.2.2 h4 i k hi hk)⟩⟩
section YI
variable {KD : Nat → Option YK} {ks : List Nat} {n0 : Nat} {r0 : YR} {f : XS → Option XR} {J : XS → XS → Prop} {nu : Nat → Int} {mo : Nat} {w0 : XW} {As : List YA}
theorem yans_e {r : YR} {K : YF} {w : XW} {e : YE} {v : YV} {x : XV} (h3 : yknow ks w r K) (hv : yvin r v x) (h : yeck K e v = true) : yans ks nu (some (.inl e)) (some x) := ⟨x, rfl, yeck_ok h3 hv h⟩
theorem yeqv {r : YR} {K : YF} {w : XW} (h3 : yknow ks w r K) {x y : YL} (h : (decide (x = y) || (yprv K (ydf x y 0) && yprv K (ydf y x 0))) = true) : yev (yi r) y = yev (yi r) x := by
  rw [Bool.or_eq_true, Bool.and_eq_true] at h
  rcases h with h | ⟨h1, h2⟩
  · rw [of_decide_eq_true h]
  · have c1 := yprv_ok h3 h1
    have c2 := yprv_ok h3 h2
    rw [ydf_ev] at c1 c2
    omega
theorem ypa0_ok (hnu : ∀ (i : Nat), i < n0 → yi r0 i = nu i) {A : YA} (hA : A ∈ As) {ro : Option YV} {K K2 : YF} (hK : ∀ (r : YR) (w : XW), yknow ks w r K → yheap KD ks w → yknow ks w r K2) (h : ypa0 n0 K2 A ro = true) : ygoodO f J (ypost KD ks nu mo w0 As) KD ks (yow ks mo w0) n0 r0 (.inr (ro, K)) := by
  unfold ypa0 at h
  rw [Bool.and_eq_true, Bool.and_eq_true] at h
  obtain ⟨c0, c1, c2⟩ := h
  have c0 := of_decide_eq_true c0
  have ev : ∀ (r : YR) (g : YL), yext n0 r0 r → ylin n0 g = true → yev (yi r) g = yev nu g := fun r g hr hg => by
    have e1 : yev (yi r) g = yev (yi r0) g := yev_ext hr hg
    rw [e1]
    show g.1 + ysum (yi r0) g.2 = g.1 + ysum nu g.2
    have : ∀ (t : List (Nat × Int)), t.all (fun q => decide (q.1 < n0)) = true → ysum (yi r0) t = ysum nu t := fun t => by
      induction t with
      | nil => intro _; rfl
      | cons q t ih =>
        intro ht
        rw [List.all_cons, Bool.and_eq_true] at ht
        show q.2 * yi r0 q.1 + ysum (yi r0) t = q.2 * nu q.1 + ysum nu t
        rw [ih ht.2, hnu q.1 (of_decide_eq_true ht.1)]
    rw [this g.2 hg]
  have fs : ∀ (r : YR) (w : XW), yext n0 r0 r → yknow ks w r K2 → (∀ g ∈ A.2.1, 0 ≤ yev nu g) ∧ ybt nu A.2.2 := fun r w hr h3 => ⟨fun g hg => by
    have hg2 := List.all_eq_true.mp c1 g hg
    rw [Bool.and_eq_true] at hg2
    rw [← ev r g hr hg2.1]
    exact yprv_ok h3 hg2.2, by rw [c0]; exact trivial⟩
  split at c2
  · rename_i h1
    intro h0 r w hr h3 h4
    exact ⟨rfl, h4.1, h4.2.1, h4.2.2.1, h4.2.2.2.1, h4.2.2.2.2, A, hA, by rw [h1]; rfl, fs r w hr (hK r w h3 h4.1)⟩
  · rename_i e v h1
    intro h0 r w x hr h3 h4 hv
    exact ⟨rfl, h4.1, h4.2.1, h4.2.2.1, h4.2.2.2.1, h4.2.2.2.2, A, hA, by rw [h1]; exact yans_e (hK r w h3 h4.1) hv c2, fs r w hr (hK r w h3 h4.1)⟩
  · rename_i x y h1
    rw [Bool.and_eq_true] at c2
    intro h0 r w X hr h3 h4 hv
    have e1 := yeqv (hK r w h3 h4.1) c2.2
    obtain ⟨v1, v2, v3⟩ := hv
    refine ⟨rfl, h4.1, h4.2.1, h4.2.2.1, h4.2.2.2.1, h4.2.2.2.2, A, hA, ?_, fs r w hr (hK r w h3 h4.1)⟩
    rw [e1, ev r x hr c2.1] at v1 v2 v3
    rw [h1, v1]
    exact ⟨rfl, v2, v3⟩
  · cases c2
theorem ypst0_ok (hnu : ∀ (i : Nat), i < n0 → yi r0 i = nu i) {ro : Option YV} {K : YF} (h : ypst0 KD n0 As ro K = true) : ygoodO f J (ypost KD ks nu mo w0 As) KD ks (yow ks mo w0) n0 r0 (.inr (ro, K)) := by
  obtain ⟨A, hA, h⟩ := List.any_eq_true.mp h
  rw [Bool.or_eq_true] at h
  rcases h with h | h
  · exact ypa0_ok hnu hA (fun _ _ h _ => h) h
  · exact ypa0_ok hnu hA (fun _ _ h h4 => yder_ok h h4) h
theorem ypst1_ok {ro : Option YV} {K : YF} (h : ypst1 As ro K = true) : ygoodO f J (ypost KD ks nu mo w0 As) KD ks (yow ks mo w0) n0 r0 (.inr (ro, K)) := by
  obtain ⟨A, hA, h⟩ := List.any_eq_true.mp h
  unfold ypa1 at h
  rw [Bool.and_eq_true] at h
  obtain ⟨c1, c2⟩ := h
  obtain ⟨c1, c3⟩ := of_decide_eq_true c1
  have fs : (∀ g ∈ A.2.1, 0 ≤ yev nu g) ∧ ybt nu A.2.2 := ⟨(fun g hg => by
    rw [c1] at hg
    cases hg), by rw [c3]; exact trivial⟩
  split at c2
  · rename_i h1
    intro h0 r w hr h3 h4
    exact ⟨rfl, h4.1, h4.2.1, h4.2.2.1, h4.2.2.2.1, h4.2.2.2.2, A, hA, by rw [h1]; rfl, fs⟩
  · rename_i e v h1
    intro h0 r w x hr h3 h4 hv
    exact ⟨rfl, h4.1, h4.2.1, h4.2.2.1, h4.2.2.2.1, h4.2.2.2.2, A, hA, by rw [h1]; exact yans_e h3 hv c2, fs⟩
  · rename_i x y h1
    rw [Bool.and_eq_true] at c2
    have e0 := of_decide_eq_true c2.1
    intro h0 r w X hr h3 h4 hv
    have e1 := yeqv h3 c2.2
    obtain ⟨v1, v2, v3⟩ := hv
    have e2 : yev (yi r) x = yev nu x := (ycst_of e0).trans (ycst_of e0).symm
    refine ⟨rfl, h4.1, h4.2.1, h4.2.2.1, h4.2.2.2.1, h4.2.2.2.2, A, hA, ?_, fs⟩
    rw [e1, e2] at v1 v2 v3
    rw [h1, v1]
    exact ⟨rfl, v2, v3⟩
  · cases c2
end YI
/-- all that is checked of a method for one contract -/
def ychk (KD : Nat → Option YK) (CT : Nat → List YC) (MT : Nat → Option XM) (FT : Nat → Nat → Option FieldType) (exc : List (List XV)) (M : XM) (C : YC) (Cs : List YCut) (fu : Nat) : Bool := match yges KD C.1 C.2.1.1 with
  | some ge => decide ((C.1.map yecat).sum ≤ xm_l M) && (ystp KD C.2.2.1 CT MT FT exc M (ypst0 KD (C.1 ++ ge).length C.2.2.2) (yexp KD C.2.2.1 CT MT FT exc M (ypst0 KD (C.1 ++ ge).length C.2.2.2) Cs none fu) (yent C ge) && Cs.all (ycut1 KD C.2.2.1 CT MT FT exc M (ypst1 C.2.2.2) Cs fu))
  | none => false
set_option maxHeartbeats 4000000 in
theorem ychk_ok {l : Launch} {D : va_G} {cl : List vw_C} {tys : List (ClassId × FieldType)} {tA : Nat → ClassId} {ex : List Nat} {exc : List (List XV)} {Ts : List Cond} {SV : List (String × String × String × Nat)} {NW : List (String × Nat × MethodName × String)} {NF : List (String × Nat × String × String × String × String)} {MT : Nat → Option XM} {FT : Nat → Nat → Option FieldType} {FD : Nat → Option (List XV)} {TY : Nat → Option FieldType} {TC : Nat → Option Nat} {cf0 : XF} {exs : List (List XV)} (hex : ∀ (j : Nat) (es : List XV), exs[j]? = some es → exc[j]? = some es) (hG : ∀ w ∈ Ts, (w.onTables && w.keeps) = true ∨ ∃ ty, w = .arrayClass ty) (hT : xty tys tA) (hTY : ∀ t C, 3 ≤ t → t < 7 → TY t = some (.object C) → tys[t]? = some (tA t, .object C)) (hTC : ∀ t b, TC t = some b → 3 ≤ t ∧ t < 7 ∧ ∃ o : vw_C, cl[b]? = some o ∧ tys[t]? = some (tA t, .object o.1))
    (hok : ∀ j N, MT j = some N → plainName (xm_y N).cls = true ∧ ∀ pc q, xfetch (xm_t N) pc = some q → xdec (xm_c N) pc q.1 ∧ xaux cl Ts MT FT FD TY SV NW NF N pc q.2.1 q.2.2.1 q.2.2.2 q.1)
    (hcf : ∀ (j : Nat) (N : XM) (as : List XV) (w : XW) (ro : Option XV) (w' : XW), MT j = some N → cf0 j as w = some (ro, w') → XMet l D cl tys tA ex exc SV NW NF Ts N as w ro w')
    {KD : Nat → Option YK} {CT : Nat → List YC} (hCT : ∀ (j : Nat) (N : XM) (C : YC), MT j = some N → C ∈ CT j → ycont l D cl tys tA ex exc SV NW NF Ts KD N C) {j : Nat} {M : XM} (hM : MT j = some M) {C : YC} {Cs : List YCut} {fu : Nat} (h : ychk KD CT MT FT exs M C Cs fu = true) : ycont l D cl tys tA ex exc SV NW NF Ts KD M C := by
  unfold ychk at h
  split at h
  · rename_i ge hge
    rw [Bool.and_eq_true, Bool.and_eq_true] at h
    obtain ⟨c1, c2, c3⟩ := h
    have c1 := of_decide_eq_true c1
    intro ks as w gs ha h4 hgh hpre
    -- the values of the symbols at the entry
    have hra : ∀ (i : Nat) (x : XV), (as ++ gs)[i]? = some x → yr0 (as ++ gs) i = x := fun i x hx => by
      unfold yr0
      rw [hx]
    have hra1 : ∀ (i : Nat) (x : XV), as[i]? = some x → yr0 (as ++ gs) i = x := fun i x hx => hra i x (by
      rw [List.getElem?_append_left (List.getElem?_eq_some_iff.mp hx).1]
      exact hx)
    obtain ⟨a1, a2, a3⟩ := yen_ok (r := yr0 (as ++ gs)) (j := 0) (k := 0) ha (fun i x hx => by
      rw [Nat.zero_add]
      exact hra1 i x hx)
    obtain ⟨g1, g2, g3⟩ := ygm_ok h4 ha hra1 (k := C.1.length) hge hgh (fun i x hx => hra _ x (by
      rw [← a3, List.getElem?_append_right (Nat.le_add_right _ _), Nat.add_sub_cancel_left]
      exact hx))
    have hnu : ∀ (i : Nat), i < (C.1 ++ ge).length → yi (yr0 (as ++ gs)) i = ynu (as ++ gs) i := fun i hi => by
      have hl : i < (as ++ gs).length := by
        rw [List.length_append] at hi ⊢
        omega
      obtain ⟨x, hx⟩ : ∃ x, (as ++ gs)[i]? = some x := ⟨_, List.getElem?_eq_getElem hl⟩
      unfold ynu
      rw [hx]
      show yi (yr0 (as ++ gs)) i = ynum x
      unfold yi
      rw [hra i x hx]
      rfl
    have hE : ∀ (s : Nat) (e : YE), (C.1 ++ ge)[s]? = some e → yein ks e (yr0 (as ++ gs) s) := fun s e hs => by
      by_cases hl : s < C.1.length
      · rw [List.getElem?_append_left hl] at hs
        obtain ⟨x, b1, b2⟩ := yargs_at ha hs
        rw [hra1 s x b1]
        exact b2
      · rw [List.getElem?_append_right (by omega)] at hs
        have := g2 _ e hs
        rw [show C.1.length + (s - C.1.length) = s by omega] at this
        exact this
    have evg : ∀ (g : YL), yev (yi (yr0 (as ++ gs))) g = yev (ynu (as ++ gs)) g := fun g => by
      have hall : ∀ i, yi (yr0 (as ++ gs)) i = ynu (as ++ gs) i := fun i => by
        by_cases hl : i < (C.1 ++ ge).length
        · exact hnu i hl
        · have hn : (as ++ gs)[i]? = none := List.getElem?_eq_none (by
            rw [List.length_append] at hl ⊢
            omega)
          unfold yi ynu yr0
          rw [hn]
      show g.1 + ysum _ g.2 = g.1 + ysum _ g.2
      rw [funext hall]
    have key := ywalk_ok (Post := ypost KD ks (ynu (as ++ gs)) C.2.2.1 w C.2.2.2) (ks := ks) (ow := yow ks C.2.2.1 w) (n0 := (C.1 ++ ge).length) (r0 := yr0 (as ++ gs)) (cf0 := cf0) (FD := FD) (TY := TY) (TC := TC) hex yow_md hCT (fun ro K hh => ypst0_ok hnu hh) (fun n0 r0 ro K hh => ypst1_ok hh) (List.all_eq_true.mp c3) c2
    obtain ⟨q, hq, hrun⟩ := key (Nat.le_refl _) (yr0 (as ++ gs)) w (0, xk_args 0 as, [], w, 0, 0) (fun _ _ => rfl) ⟨xk_args 0 as, [], rfl, a1, rfl, ⟨hE, fun g hg => (by rw [evg]; exact hpre g hg), g3, (fun q hq => by cases hq), (fun q hq => by cases hq)⟩, h4, fun _ => rfl, (fun _ i k _ _ => rfl), (fun _ i k _ _ => rfl), fun _ i k _ _ => rfl⟩
    obtain ⟨ro, w', k2, n2⟩ := q
    obtain ⟨p1, p2, p3, p4, p4x, p4y, p5⟩ := hq
    cases p1
    refine ⟨ro, w', xmet_ofK hG hT hTY hTC hok hcf hM (by rw [a2]; exact c1) ⟨Nat.zero_le _, Nat.zero_le _⟩ (Or.inr rfl) hrun, p2, p3, p4, p4x, p4y, p5⟩
  · cases h
/-- the same check in pieces -/
theorem ychk_of {KD : Nat → Option YK} {CT : Nat → List YC} {MT : Nat → Option XM} {FT : Nat → Nat → Option FieldType} {exc : List (List XV)} {M : XM} {C : YC} {Cs : List YCut} {fu : Nat} {ge : List YE} (h1 : yges KD C.1 C.2.1.1 = some ge) (h2 : (C.1.map yecat).sum ≤ xm_l M) (h3 : ystp KD C.2.2.1 CT MT FT exc M (ypst0 KD (C.1 ++ ge).length C.2.2.2) (yexp KD C.2.2.1 CT MT FT exc M (ypst0 KD (C.1 ++ ge).length C.2.2.2) Cs none fu) (yent C ge) = true) (h4 : ∀ c ∈ Cs, ycut1 KD C.2.2.1 CT MT FT exc M (ypst1 C.2.2.2) Cs fu c = true) : ychk KD CT MT FT exc M C Cs fu = true := by
  unfold ychk
  rw [h1]
  dsimp only
  rw [h3, decide_eq_true h2, List.all_eq_true.mpr h4]
  rfl
