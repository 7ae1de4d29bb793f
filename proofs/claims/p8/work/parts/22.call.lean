/-! ===== a call of the law whose callee has its contract by another road ===== -/
section XLW
variable {p : Program} {l : Launch} {e : Env} {s : State} {m : MethodId} {below : List Frame} {meth : Method} {c : Code} {b L : Nat} {xs : Nat → Int32} {D : va_G} {tA : Nat → ClassId} {ex : List Nat} {sc : List XV}
set_option maxHeartbeats 4000000 in
theorem xlaw_call (C0 : lw_At p s m meth c b L xs) (hE : XEnv D vwCl (tysX tA) ex (xSTX ++ [sc]) xSV xNW xNF (fun q : Nat => s.heap.size ≤ q) s) {pc idx a d : Nat} {z : Int} {lv : XL} {st : List XV} {w : XW} {k n : Nat} {N : XM} {ro : Option XV} {w' : XW} {S' : XS} (hf : xfetch (xm_t xmL) pc = some (.invokevirtual idx, a, d, z)) (hN : xMT a = some N) (hM : XMet l D vwCl (tysX tA) tA ex (xSTX ++ [sc]) xSV xNW xNF xTs N (st.take d).reverse w ro w') (hc : xh_call (fun _ _ _ => some (ro, w')) xmL (some N) a d true pc lv st w k n = some (.inl S')) (hS : XLS p l e s m b below meth c D tA ex (.inl S')) : XLS p l e s m b below meth c D tA ex (.inl (pc, lv, st, w, k, n)) := by
  obtain ⟨hx, hb, hr, hml, hown, hts, hX, hbl, hlocks, hgv⟩ := C0
  have hT : ∀ w ∈ xTs, w.before #[Value.ref b] s = true := fun w hw => hts w (List.mem_filter.mp hw).1
  obtain ⟨od, oa⟩ := xokb_ok (cl := vwCl) (MT := xMT) (FT := xFT) (FD := xFD) (TY := xTY) (SV := xSV) (NW := xNW) (NF := xNF) (M := xmL) rfl ⟨rfl, rfl, rfl⟩ x_arrs x_oi xFL_ok xMV_ok xMS_ok xMI_ok xOI_ok xCL_ok xAL_ok xKI_ok xKL_ok xGS_ok (xgL_ok hf)
  obtain ⟨cf, hcf0, hcf1⟩ : ∃ cf : XF, cf a (st.take d).reverse w = some (ro, w') ∧ ∀ (j : Nat) (as : List XV) (w0 : XW) (q : Option XV × XW), cf j as w0 = some q → j = a ∧ as = (st.take d).reverse ∧ w0 = w ∧ q = (ro, w') := by
    refine ⟨fun j as w0 => @ite (Option (Option XV × XW)) (j = a ∧ as = (st.take d).reverse ∧ w0 = w) (Classical.propDecidable _) (some (ro, w')) none, if_pos ⟨rfl, rfl, rfl⟩, fun j as w0 q h => ?_⟩
    by_cases hq : j = a ∧ as = (st.take d).reverse ∧ w0 = w
    · have h : @ite (Option (Option XV × XW)) (j = a ∧ as = (st.take d).reverse ∧ w0 = w) (Classical.propDecidable _) (some (ro, w')) none = some q := h
      rw [if_pos hq] at h
      exact ⟨hq.1, hq.2.1, hq.2.2, (Option.some.inj h).symm⟩
    · have h : @ite (Option (Option XV × XW)) (j = a ∧ as = (st.take d).reverse ∧ w0 = w) (Classical.propDecidable _) (some (ro, w')) none = some q := h
      rw [if_neg hq] at h
      cases h
  have hh : xh_call cf xmL (xMT a) a d true pc lv st w k n = some (.inl S') := by
    rw [hN]
    unfold xh_call at hc ⊢
    dsimp only at hc ⊢
    rw [hcf0]
    exact hc
  exact xins_ok (cf := cf) (M := xmL) (R := room_1) hx hb hml hown (fun h => absurd h (by decide +kernel)) hT x_good hE (fun _ h => h) rfl rfl rfl rfl (x_tysX tA) (x_tysY tA) (x_tysC tA) (fun j' N' as w0 ro' w2 hN' h => by
    obtain ⟨rfl, rfl, rfl, e1⟩ := hcf1 j' as w0 _ h
    cases e1
    have e0 : N' = N := Option.some.inj (hN'.symm.trans hN)
    subst e0
    exact hM) od oa hh hS
end XLW
