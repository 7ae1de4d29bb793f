/-! ===== before the loop: the two constructors don't read the script ===== -/
abbrev ycf : XF := xcall xMT xFT xFD xTY xTC xSTX xov 20 8
abbrev ylst : XS → Option XR := xstep ycf xMT xFT xFD xTY xTC xSTX xmL
def yS18 : XS := (18, yLV 0, [], xw0, 162, 6070)
theorem y_pre10 : xsteps ylst 10 xS0 = some yS18 := @of_decide_eq_true _ (xd7 _ _) (show @decide _ (xd7 (xsteps ylst 10 xS0) (some yS18)) = true by decide +kernel)
section YL
variable {p : Program} {l : Launch} {e : Env} {s : State} {m : MethodId} {below : List Frame} {meth : Method} {c : Code} {b L : Nat} {xs : Nat → Int32} {D : va_G} {tA : Nat → ClassId} {ex : List Nat} {sc : List XV}
theorem yenv_drop (hE : XEnv D vwCl (tysX tA) ex (xSTX ++ [sc]) xSV xNW xNF (fun q : Nat => s.heap.size ≤ q) s) : XEnv D vwCl (tysX tA) ex xSTX xSV xNW xNF (fun q : Nat => s.heap.size ≤ q) s := ⟨hE.1, fun j a es h1 h2 => hE.2.1 j a es h1 (by rw [List.getElem?_append_left (List.getElem?_eq_some_iff.mp h2).1]; exact h2), hE.2.2⟩
set_option maxHeartbeats 4000000 in
theorem ylaw_step (C0 : lw_At p s m meth c b L xs) (hE : XEnv D vwCl (tysX tA) ex xSTX xSV xNW xNF (fun q : Nat => s.heap.size ≤ q) s) : ∀ S r, ylst S = some r → XLS p l e s m b below meth c D tA ex r → XLS p l e s m b below meth c D tA ex (.inl S) := by
  obtain ⟨hx, hb, hr, hml, hown, hts, hX, hbl, hlocks, hgv⟩ := C0
  intro S r hS hR
  have hT : ∀ w ∈ xTs, w.before #[Value.ref b] s = true := fun w hw => hts w (List.mem_filter.mp hw).1
  have hS : xstep ycf xMT xFT xFD xTY xTC xSTX xmL S = some r := hS
  unfold xstep at hS
  cases hf : xfetch (xm_t xmL) S.1 with
  | none => rw [hf] at hS; cases hS
  | some q =>
    rw [hf] at hS
    obtain ⟨od, oa⟩ := xokb_ok (cl := vwCl) (MT := xMT) (FT := xFT) (FD := xFD) (TY := xTY) (SV := xSV) (NW := xNW) (NF := xNF) (M := xmL) rfl ⟨rfl, rfl, rfl⟩ x_arrs x_oi xFL_ok xMV_ok xMS_ok xMI_ok xOI_ok xCL_ok xAL_ok xKI_ok xKL_ok xGS_ok (xgL_ok hf)
    exact xins_ok (M := xmL) (R := room_1) hx hb hml hown (fun h => absurd h (by decide +kernel)) hT x_good hE (fun _ h => h) rfl rfl rfl rfl (x_tysX tA) (x_tysY tA) (x_tysC tA) (xcall_met x_good (x_tysX tA) (x_tysY tA) (x_tysC tA) x_ok (fun j N as w ro w' _ h => by cases h) 8) od oa hS hR
theorem ylaw (C0 : lw_At p s m meth c b L xs) (hE : XEnv D vwCl (tysX tA) ex (xSTX ++ [sc]) xSV xNW xNF (fun q : Nat => s.heap.size ≤ q) s) (hsc : ∀ j : Nat, j < L → sc[j]? = some (.inl (yv xs j, yv xs j))) (hl : sc.length = L) (hL : L ≤ 3072) {ks : List Nat} (hW : zV ks xw0) : XLS p l e s m b below meth c D tA ex (.inl xS0) := xsteps_ok (P := XLS p l e s m b below meth c D tA ex) (ylaw_step C0 (yenv_drop hE)) 10 xS0 yS18 y_pre10 (yloop C0 hE hsc hl hL 512 0 rfl hW (by decide) (by decide))
end YL
