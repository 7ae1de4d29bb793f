/-! ===== many contracts, one behind the other ===== -/
/-- a method, its contract, its cuts, how far to walk -/
abbrev YD : Type := Nat × YC × List YCut × Nat
/-- the contracts of a list of them, and those that were there before -/
def yct (B : Nat → List YC) (L : List YD) (j : Nat) : List YC := B j ++ (L.filter (fun d => d.1 == j)).map (fun d => d.2.1)
/-- the last stands first: each is checked over those behind it -/
def ychks (KD : Nat → Option YK) (B : Nat → List YC) (MT : Nat → Option XM) (FT : Nat → Nat → Option FieldType) (exc : List (List XV)) : List YD → Bool
  | [] => true
  | d :: L => (match MT d.1 with
    | some M => ychk KD (yct B L) MT FT exc M d.2.1 d.2.2.1 d.2.2.2
    | none => false) && ychks KD B MT FT exc L
theorem ychks_ok {l : Launch} {D : va_G} {cl : List vw_C} {tys : List (ClassId × FieldType)} {tA : Nat → ClassId} {ex : List Nat} {exc : List (List XV)} {Ts : List Cond} {SV : List (String × String × String × Nat)} {NW : List (String × Nat × MethodName × String)} {NF : List (String × Nat × String × String × String × String)} {MT : Nat → Option XM} {FT : Nat → Nat → Option FieldType} {FD : Nat → Option (List XV)} {TY : Nat → Option FieldType} {TC : Nat → Option Nat} {cf0 : XF} {exs : List (List XV)} (hex : ∀ (j : Nat) (es : List XV), exs[j]? = some es → exc[j]? = some es) (hG : ∀ w ∈ Ts, (w.onTables && w.keeps) = true ∨ ∃ ty, w = .arrayClass ty) (hT : xty tys tA) (hTY : ∀ t C, 3 ≤ t → t < 7 → TY t = some (.object C) → tys[t]? = some (tA t, .object C)) (hTC : ∀ t b, TC t = some b → 3 ≤ t ∧ t < 7 ∧ ∃ o : vw_C, cl[b]? = some o ∧ tys[t]? = some (tA t, .object o.1))
    (hok : ∀ j N, MT j = some N → plainName (xm_y N).cls = true ∧ ∀ pc q, xfetch (xm_t N) pc = some q → xdec (xm_c N) pc q.1 ∧ xaux cl Ts MT FT FD TY SV NW NF N pc q.2.1 q.2.2.1 q.2.2.2 q.1)
    (hcf : ∀ (j : Nat) (N : XM) (as : List XV) (w : XW) (ro : Option XV) (w' : XW), MT j = some N → cf0 j as w = some (ro, w') → XMet l D cl tys tA ex exc SV NW NF Ts N as w ro w')
    {KD : Nat → Option YK} {B : Nat → List YC} (hB : ∀ (j : Nat) (N : XM) (C : YC), MT j = some N → C ∈ B j → ycont l D cl tys tA ex exc SV NW NF Ts KD N C) : ∀ {L : List YD}, ychks KD B MT FT exs L = true → ∀ (j : Nat) (N : XM) (C : YC), MT j = some N → C ∈ yct B L j → ycont l D cl tys tA ex exc SV NW NF Ts KD N C
  | [], _, j, N, C, hN, hC => by
    unfold yct at hC
    rcases List.mem_append.mp hC with hC | hC
    · exact hB j N C hN hC
    · cases hC
  | d :: L, h, j, N, C, hN, hC => by
    unfold ychks at h
    rw [Bool.and_eq_true] at h
    have ih := ychks_ok hex hG hT hTY hTC hok hcf hB h.2
    unfold yct at hC
    rcases List.mem_append.mp hC with hC | hC
    · exact hB j N C hN hC
    · obtain ⟨d', hd', e⟩ := List.mem_map.mp hC
      obtain ⟨m1, m2⟩ := List.mem_filter.mp hd'
      have hj : d'.1 = j := by simpa using m2
      rcases List.mem_cons.mp m1 with m1 | m1
      · subst m1
        have h1 := h.1
        split at h1
        · rename_i M hM
          rw [hj, hN] at hM
          cases hM
          rw [← e]
          exact ychk_ok hex hG hT hTY hTC hok hcf ih (show MT j = some N from hN) h1
        · cases h1
      · exact ih j N C hN (List.mem_append_right _ (List.mem_map.mpr ⟨d', List.mem_filter.mpr ⟨m1, m2⟩, e⟩))
theorem ychks_cons {KD : Nat → Option YK} {B : Nat → List YC} {MT : Nat → Option XM} {FT : Nat → Nat → Option FieldType} {exc : List (List XV)} {d : YD} {L : List YD} {M : XM} (hM : MT d.1 = some M) (h : ychk KD (yct B L) MT FT exc M d.2.1 d.2.2.1 d.2.2.2 = true) (hL : ychks KD B MT FT exc L = true) : ychks KD B MT FT exc (d :: L) = true := by
  unfold ychks
  rw [hL, hM]
  dsimp only
  rw [h]
  rfl
