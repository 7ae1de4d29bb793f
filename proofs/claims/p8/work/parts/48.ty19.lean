/-! ===== a contract out of a walk ===== -/
def yecat (e : YE) : Nat := if e.1 = 2 then 2 else 1
def yen : Nat → Nat → List YE → List (Nat × YV)
  | _, _, [] => []
  | j, k, e :: es => (j, ysv e k) :: yen (if yecat e = 2 then j + 2 else j + 1) (k + 1) es
theorem yein_cat {ks : List Nat} {x : XV} : ∀ {e : YE}, yein ks e x → xcat x = yecat e
  | (0, _, _), ⟨z, h, _⟩ => by
    rw [h]
    rfl
  | (1, _, _), h => by
    rcases h with ⟨_, h⟩ | ⟨i, h, _⟩
    · rw [h]
      rfl
    · rw [h]
      rfl
  | (2, _, _), ⟨z, h, _⟩ => by
    rw [h]
    rfl
  | (a + 3, _, _), h => by
    have h : x = .inr (.inr (0, 0)) := h
    rw [h]
    unfold yecat
    rw [if_neg (show ¬ a + 3 = 2 by omega)]
    rfl
theorem yen_ok {ks : List Nat} {r : YR} : ∀ {es : List YE} {as : List XV} {j k : Nat}, yargs ks es as → (∀ (i : Nat) (x : XV), as[i]? = some x → r (k + i) = x) → ylvin r (yen j k es) (xk_args j as) ∧ (as.map xcat).sum = (es.map yecat).sum ∧ as.length = es.length
  | [], as, j, k, h, _ => by
    have h : as = [] := h
    subst h
    exact ⟨rfl, rfl, rfl⟩
  | e :: es, _, j, k, ⟨v, l', e1, h1, h2⟩, hr => by
    subst e1
    have hv : r k = v := hr 0 v rfl
    obtain ⟨a1, a2, a3⟩ := yen_ok (j := if yecat e = 2 then j + 2 else j + 1) (k := k + 1) h2 (fun i x hx => by
      rw [show k + 1 + i = k + (i + 1) by omega]
      exact hr (i + 1) x (by rw [List.getElem?_cons_succ]; exact hx))
    have hc := yein_cat h1
    refine ⟨⟨v, _, rfl, ysv_in hv h1, ?_⟩, ?_, by rw [List.length_cons, List.length_cons, a3]⟩
    · rw [hc]
      exact a1
    · rw [List.map_cons, List.map_cons, List.sum_cons, List.sum_cons, a2, hc]
theorem yargs_at {ks : List Nat} : ∀ {es : List YE} {as : List XV} {i : Nat} {e : YE}, yargs ks es as → es[i]? = some e → ∃ x, as[i]? = some x ∧ yein ks e x
  | [], _, _, _, _, h => by simp at h
  | e :: es, _, 0, _, ⟨v, l', e1, h1, h2⟩, h => by
    subst e1
    rw [List.getElem?_cons_zero] at h
    cases h
    exact ⟨v, rfl, h1⟩
  | e :: es, _, i + 1, _, ⟨v, l', e1, h1, h2⟩, h => by
    subst e1
    rw [List.getElem?_cons_succ] at h
    obtain ⟨x, a1, a2⟩ := yargs_at h2 h
    exact ⟨x, by rw [List.getElem?_cons_succ]; exact a1, a2⟩
/-- what a named field is -/
def yge (KD : Nat → Option YK) (pre : List YE) (q : Nat × Nat) : Option YE := match pre[q.1]? with
  | some (1, k, n) => if n ≠ 1 then (if q.2 < 100 then (match KD k.toNat with
    | some (.inl d) => (match d.2[q.2]? with
      | some [(0, lo, hi)] => some (0, lo, hi)
      | _ => none)
    | _ => none) else if q.2 = 100 then some (0, 0, 1) else if (decide (q.2 = 106) && yk106 KD) = true then some (0, 0, 6400000) else none) else none
  | some (0, _, _) => if q.2 = 102 ∨ q.2 = 104 then some (0, 0, 1) else none
  | _ => none
theorem yge_ok {KD : Nat → Option YK} {ks : List Nat} {w : XW} {pre : List YE} {as : List XV} (h4 : yheap KD ks w) (ha : yargs ks pre as) {q : Nat × Nat} {e : YE} {b x : XV} (h : yge KD pre q = some e) (hb : as[q.1]? = some b) (hx : ygf ks w b q.2 x) : yein ks e x := by
  unfold yge at h
  split at h
  · rename_i k n hp
    split at h
    · rename_i hn
      obtain ⟨X, b1, b2⟩ := yargs_at ha hp
      rw [hb] at b1
      cases b1
      obtain ⟨i, hv, hk⟩ := b2.resolve_left (fun hh => hn hh.1)
      split at h
      · rename_i hg
        split at h
        · rename_i d hd
          obtain ⟨cc, fa⟩ := d
          split at h
          · rename_i lo hi hf
            cases h
            obtain ⟨fs, w1, w2, w3⟩ := yheap_f h4 hk hd
            obtain ⟨c', fs', g1, g2⟩ := ygf_ref hv hg hx
            rw [w1] at g1
            cases g1
            obtain ⟨e, e1, e2⟩ := w3 q.2 _ x hf g2
            rw [List.mem_singleton.mp e1] at e2
            exact e2
          · cases h
        · cases h
      · split at h
        · rename_i hg
          cases h
          rw [hv, hg] at hx
          rcases hx with ⟨hh, _⟩ | ⟨_, hh⟩ | ⟨hh, _⟩ | ⟨hh, _⟩
          · omega
          · exact y01_in hh
          · omega
          · omega
        · split at h
          · rename_i hg
            cases h
            rw [Bool.and_eq_true] at hg
            rw [of_decide_eq_true hg.1] at hx
            exact ysm_in h4 hg.2 (ygf_106 hx).2
          · cases h
    · cases h
  · rename_i hp
    split at h
    · rename_i hg
      cases h
      obtain ⟨X, b1, b2⟩ := yargs_at ha hp
      rw [hb] at b1
      cases b1
      obtain ⟨z, e1, _⟩ := b2
      rw [e1] at hx
      rcases hx with ⟨_, hx⟩ | ⟨_, hx⟩
      · exact y01_in hx
      · exact y01_in hx
    · cases h
  · cases h
def yges (KD : Nat → Option YK) (pre : List YE) : List (Nat × Nat) → Option (List YE)
  | [] => some []
  | q :: G => match yge KD pre q, yges KD pre G with
    | some e, some es => some (e :: es)
    | _, _ => none
def ygm : Nat → List (Nat × Nat) → List YE → List ((Nat × Nat) × YV)
  | k, q :: G, e :: es => (q, ysv e k) :: ygm (k + 1) G es
  | _, _, _ => []
/-- the values of the symbols at the entry: the arguments, the fields named -/
def yr0 (as : List XV) : YR := fun i => match as[i]? with
  | some x => x
  | none => .inr (.inr (0, 0))
theorem ygm_ok {KD : Nat → Option YK} {ks : List Nat} {w : XW} {pre : List YE} {as : List XV} (h4 : yheap KD ks w) (ha : yargs ks pre as) {r : YR} (hra : ∀ (i : Nat) (x : XV), as[i]? = some x → r i = x) : ∀ {G : List (Nat × Nat)} {es : List YE} {gs : List XV} {k : Nat}, yges KD pre G = some es → yghr ks w as G gs → (∀ (i : Nat) (x : XV), gs[i]? = some x → r (k + i) = x) → es.length = gs.length ∧ (∀ (i : Nat) (e : YE), es[i]? = some e → yein ks e (r (k + i))) ∧ (∀ p ∈ ygm k G es, ∃ x, ygf ks w (r p.1.1) p.1.2 x ∧ yvin r p.2 x)
  | [], es, gs, k, h, hg, _ => by
    cases h
    have hg : gs = [] := hg
    subst hg
    exact ⟨rfl, (fun i e he => by simp at he), (fun p hp => by cases hp)⟩
  | q :: G, es, gs, k, h, ⟨x, gs', e0, ⟨b, hb, hx⟩, hg⟩, hr => by
    subst e0
    unfold yges at h
    split at h
    · rename_i e et he het
      cases h
      have b4 := yge_ok h4 ha he hb hx
      have hxr : r k = x := hr 0 x rfl
      obtain ⟨a1, a2, a3⟩ := ygm_ok h4 ha hra (k := k + 1) het hg (fun i x' hx' => by
        rw [show k + 1 + i = k + (i + 1) by omega]
        exact hr (i + 1) x' (by rw [List.getElem?_cons_succ]; exact hx'))
      refine ⟨by rw [List.length_cons, List.length_cons, a1], fun j e' he' => ?_, fun p hp => ?_⟩
      · match j, he' with
        | 0, he' =>
          rw [List.getElem?_cons_zero] at he'
          cases he'
          show yein ks e (r k)
          rw [hxr]
          exact b4
        | j + 1, he' =>
          rw [List.getElem?_cons_succ] at he'
          rw [show k + (j + 1) = k + 1 + j by omega]
          exact a2 j e' he'
      · rcases List.mem_cons.mp hp with hp | hp
        · subst hp
          refine ⟨x, ?_, ysv_in hxr b4⟩
          show ygf ks w (r q.1) q.2 x
          rw [hra q.1 b hb]
          exact hx
        · exact a3 p hp
    · cases h
/-- the state at a method's entry -/
def yent (C : YC) (ge : List YE) : YS := (0, yen 0 0 C.1, [], C.1 ++ ge, C.2.1.2, ygm C.1.length C.2.1.1 ge, [], [])
