/-! ===== a call of the law whose callee has its contract by another road ===== -/
section XLW
variable {p : Program} {l : Launch} {e : Env} {s : State} {m : MethodId} {below : List Frame} {meth : Method} {c : Code} {b L : Nat} {xs : Nat → Int32} {D : va_G} {tA : Nat → ClassId} {ex : List Nat} {sc : List XV}
set_option maxHeartbeats 4000000 in
theorem xlaw_call (C0 : lw_At p s m meth c b L xs) (hE : XEnv D vwCl (tysX tA) ex (xSTX ++ [sc]) xSV xNW xNF (fun q : Nat => s.heap.size ≤ q) s) {pc idx a d : Nat} {z : Int} {lv : XL} {st : List XV} {w : XW} {k n : Nat} {N : XM} {ro : Option XV} {w' : XW} {S' : XS} (hf : xfetch (xm_t xmL) pc = some (.invokevirtual idx, a, d, z)) (hN : xMT a = some N) (hM : XMet l D vwCl (tysX tA) tA ex (xSTX ++ [sc]) xSV xNW xNF xTs N (st.take d).reverse w ro w') (hc : xh_call (fun _ _ _ => some (ro, w')) xmL (some N) a d true pc lv st w k n = some (.inl S')) (hS : XLS p l e s m b below meth c D tA ex (.inl S')) : XLS p l e s m b below meth c D tA ex (.inl (pc, lv, st, w, k, n)) := by
  obtain ⟨hx, hb, hr, hml, hown, hts, hX, hbl, hlocks, hgv⟩ := C0
  have hT : ∀ w ∈ xTs, w.before #[Value.ref b] s = true := fun w hw => hts w (List.mem_filter.mp hw).1
  obtain ⟨od, oa⟩ := xokb_ok (cl := vwCl) (MT := xMT) (FT := xFT) (FD := xFD) (TY := xTY) (SV := xSV) (NW := xNW) (NF := xNF) (M := xmL) rfl ⟨rfl, rfl, rfl⟩ x_arrs x_oi xFL_ok xMV_ok xMS_ok xMI_ok xOI_ok xCL_ok xAL_ok xKI_ok xKL_ok xGS_ok (xgL_ok hf)
  have hcf0 : (fun (j : Nat) (as : List XV) (w0 : XW) => @ite (Option (Option XV × XW)) (j = a ∧ as = (st.take d).reverse ∧ w0 = w) (Classical.propDecidable _) (some (ro, w')) none) a (st.take d).reverse w = some (ro, w') := if_pos ⟨rfl, rfl, rfl⟩
  refine xins_ok (cf := fun (j : Nat) (as : List XV) (w0 : XW) => @ite (Option (Option XV × XW)) (j = a ∧ as = (st.take d).reverse ∧ w0 = w) (Classical.propDecidable _) (some (ro, w')) none) (M := xmL) (R := room_1) hx hb hml hown (fun h => absurd h (by decide +kernel)) hT x_good hE (fun _ h => h) rfl rfl rfl rfl (x_tysX tA) (x_tysY tA) (x_tysC tA) (fun j' N' as w0 ro' w2 hN' h => ?_) od oa ?_ hS
  · by_cases hq : j' = a ∧ as = (st.take d).reverse ∧ w0 = w
    · dsimp only at h
      rw [if_pos hq] at h
      cases h
      obtain ⟨rfl, rfl, rfl⟩ := hq
      have e0 : N' = N := Option.some.inj (hN'.symm.trans hN)
      subst e0
      exact hM
    · dsimp only at h
      rw [if_neg hq] at h
      cases h
  · show xh_call _ xmL (xMT a) a d true pc lv st w k n = some (.inl S')
    rw [hN]
    unfold xh_call at hc ⊢
    dsimp only at hc hcf0 ⊢
    rw [hcf0]
    exact hc
end XLW
