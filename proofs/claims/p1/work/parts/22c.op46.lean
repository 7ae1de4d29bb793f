/-! ===== op 46: digest ===== -/
def xD_a : XS := (1674, xlv, [.inr (.inr (1, 0))], xw0, 162, 6070)
def xD_b : XS := (1677, xlv, [.inr (.inl (some 2127358785026472617))], xdc_w, 162, 6070)
def xD_c : XS := (1678, xlv, [.inr (.inr (1, 57)), .inr (.inl (some 2127358785026472617))], xdc_w, 162, 6070)
def xD_d : XS := (1681, xlv, [.inr (.inl (some 2127358785026472617)), .inr (.inl (some 2127358785026472617))], xdm_w, 162, 6070)
theorem xD_1 : xsteps (xlst 20 xscA) 2 (xS 46) = some xD_a := @of_decide_eq_true _ (xd7 _ _) (show @decide _ (xd7 (xsteps (xlst 20 xscA) 2 (xS 46)) (some xD_a)) = true by decide +kernel)
theorem xD_2 : xsteps (xlst 20 xscA) 1 xD_b = some xD_c := @of_decide_eq_true _ (xd7 _ _) (show @decide _ (xd7 (xsteps (xlst 20 xscA) 1 xD_b) (some xD_c)) = true by decide +kernel)
theorem xD_3 : xgood xscA xD_d = true := by decide +kernel
theorem xD_f1 : xfetch (xm_t xmL) 1674 = some (.invokevirtual 205, 152, 1, 0) := by decide +kernel
theorem xD_f2 : xfetch (xm_t xmL) 1678 = some (.invokevirtual 208, 251, 1, 0) := by decide +kernel
theorem xD_h1 : xh_call (fun _ _ _ => some (some (.inr (.inl (some 2127358785026472617))), xdc_w)) xmL (some xm152) 152 1 true 1674 xlv [.inr (.inr (1, 0))] xw0 162 6070 = some (.inl xD_b) := @of_decide_eq_true _ (xd9 _ _) (show @decide _ (xd9 (xh_call (fun _ _ _ => some (some (.inr (.inl (some 2127358785026472617))), xdc_w)) xmL (some xm152) 152 1 true 1674 xlv [.inr (.inr (1, 0))] xw0 162 6070) (some (.inl xD_b))) = true by decide +kernel)
theorem xD_h2 : xh_call (fun _ _ _ => some (some (.inr (.inl (some 2127358785026472617))), xdm_w)) xmL (some xm251) 251 1 true 1678 xlv [.inr (.inr (1, 57)), .inr (.inl (some 2127358785026472617))] xdc_w 162 6070 = some (.inl xD_d) := @of_decide_eq_true _ (xd9 _ _) (show @decide _ (xd9 (xh_call (fun _ _ _ => some (some (.inr (.inl (some 2127358785026472617))), xdm_w)) xmL (some xm251) 251 1 true 1678 xlv [.inr (.inr (1, 57)), .inr (.inl (some 2127358785026472617))] xdc_w 162 6070) (some (.inl xD_d))) = true by decide +kernel)
theorem xD_w1 : xwle xdc_w xdc_w = true := by decide +kernel
theorem xD_w2 : xwle xdm_w xdm_w = true := by decide +kernel
theorem xscA_in (xs : Nat → Int32) : ∀ (i : Nat) (x : XV), xscA[i]? = some x → xv_in [] [] x (.int (xs i)) := by
  intro i x hx
  match i, hx with
  | 0, hx => cases hx; exact ⟨xs 0, rfl, x_rng _⟩
  | 1, hx => cases hx; exact ⟨xs 1, rfl, x_rng _⟩
  | 2, hx => cases hx; exact ⟨xs 2, rfl, x_rng _⟩
  | 3, hx => cases hx; exact ⟨xs 3, rfl, x_rng _⟩
  | 4, hx => cases hx; exact ⟨xs 4, rfl, x_rng _⟩
  | 5, hx => cases hx; exact ⟨xs 5, rfl, x_rng _⟩
  | i + 6, hx => simp [xscA] at hx
section XLW
variable {p : Program} {l : Launch} {e : Env} {s : State} {m : MethodId} {below : List Frame} {meth : Method} {c : Code} {b L : Nat} {xs : Nat → Int32} {D : va_G} {tA : Nat → ClassId} {ex : List Nat}
set_option maxRecDepth 100000 in
theorem xlaw_46 (C0 : lw_At p s m meth c b L xs) (hEn : ∀ sc : List XV, sc.length = 6 → (∀ (i : Nat) (x : XV), sc[i]? = some x → xv_in [] [] x (.int (xs i))) → XEnv D vwCl (tysX tA) ex (xSTX ++ [sc]) xSV xNW xNF (fun q : Nat => s.heap.size ≤ q) s) : XLS p l e s m b below meth c D tA ex (.inl (xS 46)) := by
  have hE := hEn xscA rfl (xscA_in xs)
  have hcf : ∀ (j : Nat) (N : XM) (as : List XV) (w : XW) (ro : Option XV) (w' : XW), xMT j = some N → xcf 20 xscA j as w = some (ro, w') → XMet l D vwCl (tysX tA) tA ex (xSTX ++ [xscA]) xSV xNW xNF xTs N as w ro w' := fun j N as w ro w' => xcall_met x_good (x_tysX tA) (x_tysY tA) (x_tysC tA) x_ok (fun j N as w ro w' _ h => by cases h) 8 j N as w ro w'
  have m1 : XMet l D vwCl (tysX tA) tA ex (xSTX ++ [xscA]) xSV xNW xNF xTs xm152 [.inr (.inr (1, 0))] xw0 (some (.inr (.inl (some 2127358785026472617)))) xdc_w := xmet_of x_good (x_tysX tA) (x_tysY tA) (x_tysC tA) x_ok hcf (j := 152) rfl (by decide +kernel) ⟨by decide +kernel, by decide +kernel⟩ xD_w1 xdc_road
  have m2 : XMet l D vwCl (tysX tA) tA ex (xSTX ++ [xscA]) xSV xNW xNF xTs xm251 [.inr (.inr (1, 57))] xdc_w (some (.inr (.inl (some 2127358785026472617)))) xdm_w := xmet_of x_good (x_tysX tA) (x_tysY tA) (x_tysC tA) x_ok hcf (j := 251) rfl (by decide +kernel) ⟨by decide +kernel, by decide +kernel⟩ xD_w2 xdm_road
  refine xsteps_ok (P := XLS p l e s m b below meth c D tA ex) (xlaw_step C0 hE) 2 (xS 46) xD_a xD_1 ?_
  refine xlaw_call C0 hE xD_f1 rfl m1 xD_h1 ?_
  refine xsteps_ok (P := XLS p l e s m b below meth c D tA ex) (xlaw_step C0 hE) 1 xD_b xD_c xD_2 ?_
  refine xlaw_call C0 hE xD_f2 rfl m2 xD_h2 ?_
  exact xlaw_run C0 hE xD_3
end XLW
