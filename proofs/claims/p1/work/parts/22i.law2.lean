/-! ===== the law over two contracts ===== -/
def xd10 : DecidableEq (Option XC) := by
  letI := xd4
  exact inferInstance
def xd11 : DecidableEq (Option (Option XV × XW)) := by
  letI := xd5
  letI := xd1
  exact inferInstance
theorem xMT_i : ∀ j N, xMT j = some N → xm_i N ≠ 99999 := by
  intro j N h
  unfold xMT at h
  cases hr : xMLL[j / 16]? with
  | none => rw [hr] at h; cases h
  | some r =>
    rw [hr] at h
    have ha : ∀ r ∈ xMLL, ∀ N ∈ r, decide (xm_i N ≠ 99999) = true := fun r hr => List.all_eq_true.mp (List.all_eq_true.mp (show xMLL.all (fun r => r.all (fun N => decide (xm_i N ≠ 99999))) = true by decide +kernel) r hr)
    exact of_decide_eq_true (ha r (List.mem_of_getElem? hr) N (List.mem_of_getElem? h))
theorem xTC_n : ∀ t, xTC t ≠ some 99999 := by
  intro t
  unfold xTC
  split <;> simp
/-- a closed run in a small world, in every world that has it -/
theorem xcf_mrg {sc : List XV} {j : Nat} {N : XM} {as : List XV} {w : XW} {ro : Option XV} {w' : XW} (w2 : XW) (hN : xMT j = some N) (hk : xm_k N = 0) (h : xcf 20 sc j as w = some (ro, w')) : xcf 20 sc j as (xmrg w w2) = some (ro, xmrg w' w2) := (xcall_mrg xMT_i xTC_n (fun _ _ _ => rfl) 8 j N as w w2 ro w' hN (Or.inl hk) h).2
theorem xcf_met {l : Launch} {D : va_G} {tA : Nat → ClassId} {ex : List Nat} {sc : List XV} (j : Nat) (N : XM) (as : List XV) (w : XW) (ro : Option XV) (w' : XW) : xMT j = some N → xcf 20 sc j as w = some (ro, w') → XMet l D vwCl (tysX tA) tA ex (xSTX ++ [sc]) xSV xNW xNF xTs N as w ro w' := xcall_met x_good (x_tysX tA) (x_tysY tA) (x_tysC tA) x_ok (fun j N as w ro w' _ h => by cases h) 8 j N as w ro w'
theorem xmrg_tl : ∀ {w w2 : XW} {i : Nat}, w.length ≤ i → i < w2.length → (xmrg w w2)[i]? = w2[i]?
  | [], _, _, _, _ => rfl
  | _ :: _, [], _, _, h => by simp at h
  | x :: w, y :: w2, 0, h, _ => by simp at h
  | x :: w, y :: w2, i + 1, h, h2 => by
    show (_ :: xmrg w w2)[i + 1]? = _
    rw [List.getElem?_cons_succ, List.getElem?_cons_succ]
    exact xmrg_tl (Nat.le_of_succ_le_succ h) (Nat.lt_of_succ_lt_succ h2)
theorem xhc_ok {M N : XM} {j na pc : Nat} {lv : XL} {st : List XV} {w : XW} {k n : Nat} {ro : Option XV} {w' : XW} (h1 : na ≤ st.length) (h2 : ((st.drop na).map xcat).sum ≤ 8) (h3 : xm_f N + 1 ≤ xm_f M) (h4 : 8 + (xm_l N + 11) + xm_o N ≤ xm_o M) (h5 : k + xm_k N ≤ xm_k M) (h6 : n + xm_n N ≤ xm_n M) (h7 : xrecv w (xm_i N) (st.take na).reverse = true) : xh_call (fun _ _ _ => some (ro, w')) M (some N) j na true pc lv st w k n = some (.inl (pc + 3, lv, ro.toList ++ st.drop na, w', k + xm_k N, n + xm_n N)) := by
  simp only [xh_call]
  rw [if_pos ⟨h1, h2, h3, h4, h5, h6, by rw [h7]; rfl⟩]
theorem sx_alen {cf : XF} {MT : Nat → Option XM} {FT : Nat → Nat → Option FieldType} {FD : Nat → Option (List XV)} {TY : Nat → Option FieldType} {TC : Nat → Option Nat} {exc : List (List XV)} {M : XM} {pc : Nat} {lv : XL} {st : List XV} {w : XW} {k n a b : Nat} {z : Int} {q : Nat} {es : List XV} (h : exc[q]? = some es) (hl : es.length < 2147483648) : xins cf MT FT FD TY TC exc M .arraylength a b z pc lv (.inr (.inr (2, q)) :: st) w k n = some (.inl (pc + 1, lv, xi es.length :: st, w, k, n)) := by
  simp only [xins, xh_alen, xarr, h]
  simp [hl]
def xsq (q1 q2 q3 : Int × Int) : List XV := [.inl xtop, .inl q1, .inl q2, .inl q3, .inl xtop, .inl xtop]
theorem xsq_in {xs : Nat → Int32} {q1 q2 q3 : Int × Int} (h1 : q1.1 ≤ (xs 1).toInt ∧ (xs 1).toInt ≤ q1.2) (h2 : q2.1 ≤ (xs 2).toInt ∧ (xs 2).toInt ≤ q2.2) (h3 : q3.1 ≤ (xs 3).toInt ∧ (xs 3).toInt ≤ q3.2) : ∀ (i : Nat) (x : XV), (xsq q1 q2 q3)[i]? = some x → xv_in [] [] x (.int (xs i)) := by
  intro i x hx
  match i, hx with
  | 0, hx => cases hx; exact ⟨xs 0, rfl, x_rng _⟩
  | 1, hx => cases hx; exact ⟨xs 1, rfl, h1⟩
  | 2, hx => cases hx; exact ⟨xs 2, rfl, h2⟩
  | 3, hx => cases hx; exact ⟨xs 3, rfl, h3⟩
  | 4, hx => cases hx; exact ⟨xs 4, rfl, x_rng _⟩
  | 5, hx => cases hx; exact ⟨xs 5, rfl, x_rng _⟩
  | i + 6, hx => simp [xsq] at hx
theorem xfL_236 : xfetch (xm_t xmL) 236 = some (.aload_n 1, 0, 0, 0) := by decide +kernel
theorem xfL_237 : xfetch (xm_t xmL) 237 = some (.aload_n 0, 0, 0, 0) := by decide +kernel
theorem xfL_238 : xfetch (xm_t xmL) 238 = some (.iload_n 3, 0, 0, 0) := by decide +kernel
theorem xfL_239 : xfetch (xm_t xmL) 239 = some (.iconst 1, 0, 0, 1) := by decide +kernel
theorem xfL_240 : xfetch (xm_t xmL) 240 = some (.iadd, 0, 0, 0) := by decide +kernel
theorem xfL_241 : xfetch (xm_t xmL) 241 = some (.iaload, 0, 0, 0) := by decide +kernel
theorem xfL_242 : xfetch (xm_t xmL) 242 = some (.aload_n 0, 0, 0, 0) := by decide +kernel
theorem xfL_243 : xfetch (xm_t xmL) 243 = some (.iload_n 3, 0, 0, 0) := by decide +kernel
theorem xfL_244 : xfetch (xm_t xmL) 244 = some (.iconst 2, 0, 0, 2) := by decide +kernel
theorem xfL_245 : xfetch (xm_t xmL) 245 = some (.iadd, 0, 0, 0) := by decide +kernel
theorem xfL_246 : xfetch (xm_t xmL) 246 = some (.iaload, 0, 0, 0) := by decide +kernel
theorem xfL_247 : xfetch (xm_t xmL) 247 = some (.invokevirtual 13, 8, 3, 0) := by decide +kernel
theorem xfL_250 : xfetch (xm_t xmL) 250 = some (.aload_n 2, 0, 0, 0) := by decide +kernel
theorem xfL_251 : xfetch (xm_t xmL) 251 = some (.aload_n 0, 0, 0, 0) := by decide +kernel
theorem xfL_252 : xfetch (xm_t xmL) 252 = some (.iload_n 3, 0, 0, 0) := by decide +kernel
theorem xfL_253 : xfetch (xm_t xmL) 253 = some (.iconst 1, 0, 0, 1) := by decide +kernel
theorem xfL_254 : xfetch (xm_t xmL) 254 = some (.iadd, 0, 0, 0) := by decide +kernel
theorem xfL_255 : xfetch (xm_t xmL) 255 = some (.iaload, 0, 0, 0) := by decide +kernel
theorem xfL_256 : xfetch (xm_t xmL) 256 = some (.aload_n 0, 0, 0, 0) := by decide +kernel
theorem xfL_257 : xfetch (xm_t xmL) 257 = some (.iload_n 3, 0, 0, 0) := by decide +kernel
theorem xfL_258 : xfetch (xm_t xmL) 258 = some (.iconst 2, 0, 0, 2) := by decide +kernel
theorem xfL_259 : xfetch (xm_t xmL) 259 = some (.iadd, 0, 0, 0) := by decide +kernel
theorem xfL_260 : xfetch (xm_t xmL) 260 = some (.iaload, 0, 0, 0) := by decide +kernel
theorem xfL_261 : xfetch (xm_t xmL) 261 = some (.invokevirtual 17, 158, 3, 0) := by decide +kernel
theorem xfL_264 : xfetch (xm_t xmL) 264 = some (.if_icmp .eq 1423, 1687, 0, 0) := by decide +kernel
theorem xfL_1687 : xfetch (xm_t xmL) 1687 = some (.iinc 3 6, 0, 0, 6) := by decide +kernel
theorem xfL_1690 : xfetch (xm_t xmL) 1690 = some (.goto (-1672), 18, 0, 0) := by decide +kernel
theorem xfL_18 : xfetch (xm_t xmL) 18 = some (.iload_n 3, 0, 0, 0) := by decide +kernel
theorem xfL_19 : xfetch (xm_t xmL) 19 = some (.aload_n 0, 0, 0, 0) := by decide +kernel
theorem xfL_20 : xfetch (xm_t xmL) 20 = some (.arraylength, 0, 0, 0) := by decide +kernel
theorem xfL_21 : xfetch (xm_t xmL) 21 = some (.bipush 6, 0, 0, 6) := by decide +kernel
theorem xfL_23 : xfetch (xm_t xmL) 23 = some (.isub, 0, 0, 0) := by decide +kernel
theorem xfL_24 : xfetch (xm_t xmL) 24 = some (.if_icmp .gt 1669, 1693, 0, 0) := by decide +kernel
theorem xfL_1693 : xfetch (xm_t xmL) 1693 = some (.iconst 1, 0, 0, 1) := by decide +kernel
theorem xfL_1694 : xfetch (xm_t xmL) 1694 = some (.ireturn, 0, 0, 0) := by decide +kernel
theorem xT_0 : xsteps (xlst 20 xscA) 1 (xS 0) = some (236, xlv, [], xw0, 162, 6070) := @of_decide_eq_true _ (xd7 _ _) (show @decide _ (xd7 (xsteps (xlst 20 xscA) 1 (xS 0)) (some (236, xlv, [], xw0, 162, 6070))) = true by decide +kernel)
section XLW
variable {p : Program} {l : Launch} {e : Env} {s : State} {m : MethodId} {below : List Frame} {meth : Method} {c : Code} {b L : Nat} {xs : Nat → Int32} {D : va_G} {tA : Nat → ClassId} {ex : List Nat}
set_option maxRecDepth 100000 in
set_option maxHeartbeats 4000000 in
theorem xlw_0 (C0 : lw_At p s m meth c b L xs) (hEn : ∀ sc : List XV, sc.length = 6 → (∀ (i : Nat) (x : XV), sc[i]? = some x → xv_in [] [] x (.int (xs i))) → XEnv D vwCl (tysX tA) ex (xSTX ++ [sc]) xSV xNW xNF (fun q : Nat => s.heap.size ≤ q) s) {q1 q2 : Int × Int} (h1 : q1.1 ≤ (xs 1).toInt ∧ (xs 1).toInt ≤ q1.2) (h2 : q2.1 ≤ (xs 2).toInt ∧ (xs 2).toInt ≤ q2.2) {z : Int} {w1 w2 : XW} {fs : List XV} (m1 : XMet l D vwCl (tysX tA) tA ex (xSTX ++ [xscA]) xSV xNW xNF xTs xm8 [.inr (.inr (1, 0)), .inl q1, .inl q2] xw0 (some (.inl (z, z))) w1) (hr : w1[57]? = some (.inl (10, fs))) (m2 : XMet l D vwCl (tysX tA) tA ex (xSTX ++ [xscA]) xSV xNW xNF xTs xm158 [.inr (.inr (1, 57)), .inl q1, .inl q2] w1 (some (.inl (z, z))) w2) : XLS p l e s m b below meth c D tA ex (.inl (xS 0)) := by
  have hE := hEn (xsq q1 q2 xtop) rfl (xsq_in h1 h2 (x_rng _))
  have hA := hEn xscA rfl (xscA_in xs)
  have hP : XCl (xlst 20 (xsq q1 q2 xtop)) (fun _ _ => False) (XLS p l e s m b below meth c D tA ex) := ⟨xlaw_step C0 hE, fun S S' h hS => xsat_mono h hS, fun _ _ h => h.elim, fun pc lv lv' st w k n hq hs => xsat_perm hq hs⟩
  refine xsteps_ok (P := XLS p l e s m b below meth c D tA ex) (xlaw_step C0 hA) 1 (xS 0) _ xT_0 ?_
  refine hP.go (r := .inl (237, xlv, [.inr (.inr (1, 0))], xw0, 162, 6070)) xfL_236 rfl ?_
  refine hP.go (r := .inl (238, xlv, [.inr (.inr (2, 5)), .inr (.inr (1, 0))], xw0, 162, 6070)) xfL_237 rfl ?_
  refine hP.go (r := .inl (239, xlv, [.inl (0, 0), .inr (.inr (2, 5)), .inr (.inr (1, 0))], xw0, 162, 6070)) xfL_238 rfl ?_
  refine hP.go (r := .inl (240, xlv, [.inl (1, 1), .inl (0, 0), .inr (.inr (2, 5)), .inr (.inr (1, 0))], xw0, 162, 6070)) xfL_239 rfl ?_
  refine hP.go (r := .inl (241, xlv, [.inl (1, 1), .inr (.inr (2, 5)), .inr (.inr (1, 0))], xw0, 162, 6070)) xfL_240 rfl ?_
  refine hP.go (r := .inl (242, xlv, [.inl q1, .inr (.inr (1, 0))], xw0, 162, 6070)) xfL_241 rfl ?_
  refine hP.go (r := .inl (243, xlv, [.inr (.inr (2, 5)), .inl q1, .inr (.inr (1, 0))], xw0, 162, 6070)) xfL_242 rfl ?_
  refine hP.go (r := .inl (244, xlv, [.inl (0, 0), .inr (.inr (2, 5)), .inl q1, .inr (.inr (1, 0))], xw0, 162, 6070)) xfL_243 rfl ?_
  refine hP.go (r := .inl (245, xlv, [.inl (2, 2), .inl (0, 0), .inr (.inr (2, 5)), .inl q1, .inr (.inr (1, 0))], xw0, 162, 6070)) xfL_244 rfl ?_
  refine hP.go (r := .inl (246, xlv, [.inl (2, 2), .inr (.inr (2, 5)), .inl q1, .inr (.inr (1, 0))], xw0, 162, 6070)) xfL_245 rfl ?_
  refine hP.go (r := .inl (247, xlv, [.inl q2, .inl q1, .inr (.inr (1, 0))], xw0, 162, 6070)) xfL_246 rfl ?_
  refine xlaw_call C0 hA xfL_247 rfl m1 (xhc_ok (Nat.le_of_ble_eq_true rfl) (Nat.le_of_ble_eq_true rfl) (Nat.le_of_ble_eq_true rfl) (Nat.le_of_ble_eq_true rfl) (Nat.le_of_ble_eq_true rfl) (Nat.le_of_ble_eq_true rfl) rfl) ?_
  show XLS p l e s m b below meth c D tA ex (.inl (250, xlv, [.inl (z, z)], w1, 162, 6070))
  refine hP.go (r := .inl (251, xlv, [.inr (.inr (1, 57)), .inl (z, z)], w1, 162, 6070)) xfL_250 rfl ?_
  refine hP.go (r := .inl (252, xlv, [.inr (.inr (2, 5)), .inr (.inr (1, 57)), .inl (z, z)], w1, 162, 6070)) xfL_251 rfl ?_
  refine hP.go (r := .inl (253, xlv, [.inl (0, 0), .inr (.inr (2, 5)), .inr (.inr (1, 57)), .inl (z, z)], w1, 162, 6070)) xfL_252 rfl ?_
  refine hP.go (r := .inl (254, xlv, [.inl (1, 1), .inl (0, 0), .inr (.inr (2, 5)), .inr (.inr (1, 57)), .inl (z, z)], w1, 162, 6070)) xfL_253 rfl ?_
  refine hP.go (r := .inl (255, xlv, [.inl (1, 1), .inr (.inr (2, 5)), .inr (.inr (1, 57)), .inl (z, z)], w1, 162, 6070)) xfL_254 rfl ?_
  refine hP.go (r := .inl (256, xlv, [.inl q1, .inr (.inr (1, 57)), .inl (z, z)], w1, 162, 6070)) xfL_255 rfl ?_
  refine hP.go (r := .inl (257, xlv, [.inr (.inr (2, 5)), .inl q1, .inr (.inr (1, 57)), .inl (z, z)], w1, 162, 6070)) xfL_256 rfl ?_
  refine hP.go (r := .inl (258, xlv, [.inl (0, 0), .inr (.inr (2, 5)), .inl q1, .inr (.inr (1, 57)), .inl (z, z)], w1, 162, 6070)) xfL_257 rfl ?_
  refine hP.go (r := .inl (259, xlv, [.inl (2, 2), .inl (0, 0), .inr (.inr (2, 5)), .inl q1, .inr (.inr (1, 57)), .inl (z, z)], w1, 162, 6070)) xfL_258 rfl ?_
  refine hP.go (r := .inl (260, xlv, [.inl (2, 2), .inr (.inr (2, 5)), .inl q1, .inr (.inr (1, 57)), .inl (z, z)], w1, 162, 6070)) xfL_259 rfl ?_
  refine hP.go (r := .inl (261, xlv, [.inl q2, .inl q1, .inr (.inr (1, 57)), .inl (z, z)], w1, 162, 6070)) xfL_260 rfl ?_
  refine xlaw_call C0 hA xfL_261 rfl m2 (xhc_ok (Nat.le_of_ble_eq_true rfl) (Nat.le_of_ble_eq_true rfl) (Nat.le_of_ble_eq_true rfl) (Nat.le_of_ble_eq_true rfl) (Nat.le_of_ble_eq_true rfl) (Nat.le_of_ble_eq_true rfl) (xrecv_of hr)) ?_
  show XLS p l e s m b below meth c D tA ex (.inl (264, xlv, [.inl (z, z), .inl (z, z)], w2, 162, 6070))
  refine hP.go (r := .inl (1687, xlv, [], w2, 162, 6070)) xfL_264 (sx_icmp (o := true) (xceq_of.trans (by simp))) ?_
  refine hP.go (r := .inl (1690, [(3, .inl (6, 6)), (2, .inr (.inr (1, 57))), (1, .inr (.inr (1, 0))), (0, .inr (.inr (2, 5)))], [], w2, 162, 6070)) xfL_1687 rfl ?_
  refine hP.go (r := .inl (18, [(3, .inl (6, 6)), (2, .inr (.inr (1, 57))), (1, .inr (.inr (1, 0))), (0, .inr (.inr (2, 5)))], [], w2, 162, 6070)) xfL_1690 rfl ?_
  refine hP.go (r := .inl (19, [(3, .inl (6, 6)), (2, .inr (.inr (1, 57))), (1, .inr (.inr (1, 0))), (0, .inr (.inr (2, 5)))], [.inl (6, 6)], w2, 162, 6070)) xfL_18 rfl ?_
  refine hP.go (r := .inl (20, [(3, .inl (6, 6)), (2, .inr (.inr (1, 57))), (1, .inr (.inr (1, 0))), (0, .inr (.inr (2, 5)))], [.inr (.inr (2, 5)), .inl (6, 6)], w2, 162, 6070)) xfL_19 rfl ?_
  refine hP.go (r := .inl (21, [(3, .inl (6, 6)), (2, .inr (.inr (1, 57))), (1, .inr (.inr (1, 0))), (0, .inr (.inr (2, 5)))], [.inl (6, 6), .inl (6, 6)], w2, 162, 6070)) xfL_20 rfl ?_
  refine hP.go (r := .inl (23, [(3, .inl (6, 6)), (2, .inr (.inr (1, 57))), (1, .inr (.inr (1, 0))), (0, .inr (.inr (2, 5)))], [.inl (6, 6), .inl (6, 6), .inl (6, 6)], w2, 162, 6070)) xfL_21 rfl ?_
  refine hP.go (r := .inl (24, [(3, .inl (6, 6)), (2, .inr (.inr (1, 57))), (1, .inr (.inr (1, 0))), (0, .inr (.inr (2, 5)))], [.inl (0, 0), .inl (6, 6)], w2, 162, 6070)) xfL_23 rfl ?_
  refine hP.go (r := .inl (1693, [(3, .inl (6, 6)), (2, .inr (.inr (1, 57))), (1, .inr (.inr (1, 0))), (0, .inr (.inr (2, 5)))], [], w2, 162, 6070)) xfL_24 rfl ?_
  refine hP.go (r := .inl (1694, [(3, .inl (6, 6)), (2, .inr (.inr (1, 57))), (1, .inr (.inr (1, 0))), (0, .inr (.inr (2, 5)))], [.inl (1, 1)], w2, 162, 6070)) xfL_1693 rfl ?_
  exact hP.go (r := .inr (some (.inl (1, 1)), w2, 162, 6070)) xfL_1694 rfl (xlaw_end C0 rfl)
end XLW
theorem xfL_421 : xfetch (xm_t xmL) 421 = some (.aload_n 1, 0, 0, 0) := by decide +kernel
theorem xfL_422 : xfetch (xm_t xmL) 422 = some (.aload_n 0, 0, 0, 0) := by decide +kernel
theorem xfL_423 : xfetch (xm_t xmL) 423 = some (.iload_n 3, 0, 0, 0) := by decide +kernel
theorem xfL_424 : xfetch (xm_t xmL) 424 = some (.iconst 1, 0, 0, 1) := by decide +kernel
theorem xfL_425 : xfetch (xm_t xmL) 425 = some (.iadd, 0, 0, 0) := by decide +kernel
theorem xfL_426 : xfetch (xm_t xmL) 426 = some (.iaload, 0, 0, 0) := by decide +kernel
theorem xfL_427 : xfetch (xm_t xmL) 427 = some (.aload_n 0, 0, 0, 0) := by decide +kernel
theorem xfL_428 : xfetch (xm_t xmL) 428 = some (.iload_n 3, 0, 0, 0) := by decide +kernel
theorem xfL_429 : xfetch (xm_t xmL) 429 = some (.iconst 2, 0, 0, 2) := by decide +kernel
theorem xfL_430 : xfetch (xm_t xmL) 430 = some (.iadd, 0, 0, 0) := by decide +kernel
theorem xfL_431 : xfetch (xm_t xmL) 431 = some (.iaload, 0, 0, 0) := by decide +kernel
theorem xfL_432 : xfetch (xm_t xmL) 432 = some (.invokevirtual 37, 19, 3, 0) := by decide +kernel
theorem xfL_435 : xfetch (xm_t xmL) 435 = some (.aload_n 2, 0, 0, 0) := by decide +kernel
theorem xfL_436 : xfetch (xm_t xmL) 436 = some (.aload_n 0, 0, 0, 0) := by decide +kernel
theorem xfL_437 : xfetch (xm_t xmL) 437 = some (.iload_n 3, 0, 0, 0) := by decide +kernel
theorem xfL_438 : xfetch (xm_t xmL) 438 = some (.iconst 1, 0, 0, 1) := by decide +kernel
theorem xfL_439 : xfetch (xm_t xmL) 439 = some (.iadd, 0, 0, 0) := by decide +kernel
theorem xfL_440 : xfetch (xm_t xmL) 440 = some (.iaload, 0, 0, 0) := by decide +kernel
theorem xfL_441 : xfetch (xm_t xmL) 441 = some (.aload_n 0, 0, 0, 0) := by decide +kernel
theorem xfL_442 : xfetch (xm_t xmL) 442 = some (.iload_n 3, 0, 0, 0) := by decide +kernel
theorem xfL_443 : xfetch (xm_t xmL) 443 = some (.iconst 2, 0, 0, 2) := by decide +kernel
theorem xfL_444 : xfetch (xm_t xmL) 444 = some (.iadd, 0, 0, 0) := by decide +kernel
theorem xfL_445 : xfetch (xm_t xmL) 445 = some (.iaload, 0, 0, 0) := by decide +kernel
theorem xfL_446 : xfetch (xm_t xmL) 446 = some (.invokevirtual 40, 169, 3, 0) := by decide +kernel
theorem xfL_449 : xfetch (xm_t xmL) 449 = some (.if_icmp .eq 1238, 1687, 0, 0) := by decide +kernel
theorem xT_5 : xsteps (xlst 20 xscA) 1 (xS 5) = some (421, xlv, [], xw0, 162, 6070) := @of_decide_eq_true _ (xd7 _ _) (show @decide _ (xd7 (xsteps (xlst 20 xscA) 1 (xS 5)) (some (421, xlv, [], xw0, 162, 6070))) = true by decide +kernel)
section XLW
variable {p : Program} {l : Launch} {e : Env} {s : State} {m : MethodId} {below : List Frame} {meth : Method} {c : Code} {b L : Nat} {xs : Nat → Int32} {D : va_G} {tA : Nat → ClassId} {ex : List Nat}
set_option maxRecDepth 100000 in
set_option maxHeartbeats 4000000 in
theorem xlw_5 (C0 : lw_At p s m meth c b L xs) (hEn : ∀ sc : List XV, sc.length = 6 → (∀ (i : Nat) (x : XV), sc[i]? = some x → xv_in [] [] x (.int (xs i))) → XEnv D vwCl (tysX tA) ex (xSTX ++ [sc]) xSV xNW xNF (fun q : Nat => s.heap.size ≤ q) s) {q1 q2 : Int × Int} (h1 : q1.1 ≤ (xs 1).toInt ∧ (xs 1).toInt ≤ q1.2) (h2 : q2.1 ≤ (xs 2).toInt ∧ (xs 2).toInt ≤ q2.2) {z : Int} {w1 w2 : XW} {fs : List XV} (m1 : XMet l D vwCl (tysX tA) tA ex (xSTX ++ [xscA]) xSV xNW xNF xTs xm19 [.inr (.inr (1, 0)), .inl q1, .inl q2] xw0 (some (.inl (z, z))) w1) (hr : w1[57]? = some (.inl (10, fs))) (m2 : XMet l D vwCl (tysX tA) tA ex (xSTX ++ [xscA]) xSV xNW xNF xTs xm169 [.inr (.inr (1, 57)), .inl q1, .inl q2] w1 (some (.inl (z, z))) w2) : XLS p l e s m b below meth c D tA ex (.inl (xS 5)) := by
  have hE := hEn (xsq q1 q2 xtop) rfl (xsq_in h1 h2 (x_rng _))
  have hA := hEn xscA rfl (xscA_in xs)
  have hP : XCl (xlst 20 (xsq q1 q2 xtop)) (fun _ _ => False) (XLS p l e s m b below meth c D tA ex) := ⟨xlaw_step C0 hE, fun S S' h hS => xsat_mono h hS, fun _ _ h => h.elim, fun pc lv lv' st w k n hq hs => xsat_perm hq hs⟩
  refine xsteps_ok (P := XLS p l e s m b below meth c D tA ex) (xlaw_step C0 hA) 1 (xS 5) _ xT_5 ?_
  refine hP.go (r := .inl (422, xlv, [.inr (.inr (1, 0))], xw0, 162, 6070)) xfL_421 rfl ?_
  refine hP.go (r := .inl (423, xlv, [.inr (.inr (2, 5)), .inr (.inr (1, 0))], xw0, 162, 6070)) xfL_422 rfl ?_
  refine hP.go (r := .inl (424, xlv, [.inl (0, 0), .inr (.inr (2, 5)), .inr (.inr (1, 0))], xw0, 162, 6070)) xfL_423 rfl ?_
  refine hP.go (r := .inl (425, xlv, [.inl (1, 1), .inl (0, 0), .inr (.inr (2, 5)), .inr (.inr (1, 0))], xw0, 162, 6070)) xfL_424 rfl ?_
  refine hP.go (r := .inl (426, xlv, [.inl (1, 1), .inr (.inr (2, 5)), .inr (.inr (1, 0))], xw0, 162, 6070)) xfL_425 rfl ?_
  refine hP.go (r := .inl (427, xlv, [.inl q1, .inr (.inr (1, 0))], xw0, 162, 6070)) xfL_426 rfl ?_
  refine hP.go (r := .inl (428, xlv, [.inr (.inr (2, 5)), .inl q1, .inr (.inr (1, 0))], xw0, 162, 6070)) xfL_427 rfl ?_
  refine hP.go (r := .inl (429, xlv, [.inl (0, 0), .inr (.inr (2, 5)), .inl q1, .inr (.inr (1, 0))], xw0, 162, 6070)) xfL_428 rfl ?_
  refine hP.go (r := .inl (430, xlv, [.inl (2, 2), .inl (0, 0), .inr (.inr (2, 5)), .inl q1, .inr (.inr (1, 0))], xw0, 162, 6070)) xfL_429 rfl ?_
  refine hP.go (r := .inl (431, xlv, [.inl (2, 2), .inr (.inr (2, 5)), .inl q1, .inr (.inr (1, 0))], xw0, 162, 6070)) xfL_430 rfl ?_
  refine hP.go (r := .inl (432, xlv, [.inl q2, .inl q1, .inr (.inr (1, 0))], xw0, 162, 6070)) xfL_431 rfl ?_
  refine xlaw_call C0 hA xfL_432 rfl m1 (xhc_ok (Nat.le_of_ble_eq_true rfl) (Nat.le_of_ble_eq_true rfl) (Nat.le_of_ble_eq_true rfl) (Nat.le_of_ble_eq_true rfl) (Nat.le_of_ble_eq_true rfl) (Nat.le_of_ble_eq_true rfl) rfl) ?_
  show XLS p l e s m b below meth c D tA ex (.inl (435, xlv, [.inl (z, z)], w1, 162, 6070))
  refine hP.go (r := .inl (436, xlv, [.inr (.inr (1, 57)), .inl (z, z)], w1, 162, 6070)) xfL_435 rfl ?_
  refine hP.go (r := .inl (437, xlv, [.inr (.inr (2, 5)), .inr (.inr (1, 57)), .inl (z, z)], w1, 162, 6070)) xfL_436 rfl ?_
  refine hP.go (r := .inl (438, xlv, [.inl (0, 0), .inr (.inr (2, 5)), .inr (.inr (1, 57)), .inl (z, z)], w1, 162, 6070)) xfL_437 rfl ?_
  refine hP.go (r := .inl (439, xlv, [.inl (1, 1), .inl (0, 0), .inr (.inr (2, 5)), .inr (.inr (1, 57)), .inl (z, z)], w1, 162, 6070)) xfL_438 rfl ?_
  refine hP.go (r := .inl (440, xlv, [.inl (1, 1), .inr (.inr (2, 5)), .inr (.inr (1, 57)), .inl (z, z)], w1, 162, 6070)) xfL_439 rfl ?_
  refine hP.go (r := .inl (441, xlv, [.inl q1, .inr (.inr (1, 57)), .inl (z, z)], w1, 162, 6070)) xfL_440 rfl ?_
  refine hP.go (r := .inl (442, xlv, [.inr (.inr (2, 5)), .inl q1, .inr (.inr (1, 57)), .inl (z, z)], w1, 162, 6070)) xfL_441 rfl ?_
  refine hP.go (r := .inl (443, xlv, [.inl (0, 0), .inr (.inr (2, 5)), .inl q1, .inr (.inr (1, 57)), .inl (z, z)], w1, 162, 6070)) xfL_442 rfl ?_
  refine hP.go (r := .inl (444, xlv, [.inl (2, 2), .inl (0, 0), .inr (.inr (2, 5)), .inl q1, .inr (.inr (1, 57)), .inl (z, z)], w1, 162, 6070)) xfL_443 rfl ?_
  refine hP.go (r := .inl (445, xlv, [.inl (2, 2), .inr (.inr (2, 5)), .inl q1, .inr (.inr (1, 57)), .inl (z, z)], w1, 162, 6070)) xfL_444 rfl ?_
  refine hP.go (r := .inl (446, xlv, [.inl q2, .inl q1, .inr (.inr (1, 57)), .inl (z, z)], w1, 162, 6070)) xfL_445 rfl ?_
  refine xlaw_call C0 hA xfL_446 rfl m2 (xhc_ok (Nat.le_of_ble_eq_true rfl) (Nat.le_of_ble_eq_true rfl) (Nat.le_of_ble_eq_true rfl) (Nat.le_of_ble_eq_true rfl) (Nat.le_of_ble_eq_true rfl) (Nat.le_of_ble_eq_true rfl) (xrecv_of hr)) ?_
  show XLS p l e s m b below meth c D tA ex (.inl (449, xlv, [.inl (z, z), .inl (z, z)], w2, 162, 6070))
  refine hP.go (r := .inl (1687, xlv, [], w2, 162, 6070)) xfL_449 (sx_icmp (o := true) (xceq_of.trans (by simp))) ?_
  refine hP.go (r := .inl (1690, [(3, .inl (6, 6)), (2, .inr (.inr (1, 57))), (1, .inr (.inr (1, 0))), (0, .inr (.inr (2, 5)))], [], w2, 162, 6070)) xfL_1687 rfl ?_
  refine hP.go (r := .inl (18, [(3, .inl (6, 6)), (2, .inr (.inr (1, 57))), (1, .inr (.inr (1, 0))), (0, .inr (.inr (2, 5)))], [], w2, 162, 6070)) xfL_1690 rfl ?_
  refine hP.go (r := .inl (19, [(3, .inl (6, 6)), (2, .inr (.inr (1, 57))), (1, .inr (.inr (1, 0))), (0, .inr (.inr (2, 5)))], [.inl (6, 6)], w2, 162, 6070)) xfL_18 rfl ?_
  refine hP.go (r := .inl (20, [(3, .inl (6, 6)), (2, .inr (.inr (1, 57))), (1, .inr (.inr (1, 0))), (0, .inr (.inr (2, 5)))], [.inr (.inr (2, 5)), .inl (6, 6)], w2, 162, 6070)) xfL_19 rfl ?_
  refine hP.go (r := .inl (21, [(3, .inl (6, 6)), (2, .inr (.inr (1, 57))), (1, .inr (.inr (1, 0))), (0, .inr (.inr (2, 5)))], [.inl (6, 6), .inl (6, 6)], w2, 162, 6070)) xfL_20 rfl ?_
  refine hP.go (r := .inl (23, [(3, .inl (6, 6)), (2, .inr (.inr (1, 57))), (1, .inr (.inr (1, 0))), (0, .inr (.inr (2, 5)))], [.inl (6, 6), .inl (6, 6), .inl (6, 6)], w2, 162, 6070)) xfL_21 rfl ?_
  refine hP.go (r := .inl (24, [(3, .inl (6, 6)), (2, .inr (.inr (1, 57))), (1, .inr (.inr (1, 0))), (0, .inr (.inr (2, 5)))], [.inl (0, 0), .inl (6, 6)], w2, 162, 6070)) xfL_23 rfl ?_
  refine hP.go (r := .inl (1693, [(3, .inl (6, 6)), (2, .inr (.inr (1, 57))), (1, .inr (.inr (1, 0))), (0, .inr (.inr (2, 5)))], [], w2, 162, 6070)) xfL_24 rfl ?_
  refine hP.go (r := .inl (1694, [(3, .inl (6, 6)), (2, .inr (.inr (1, 57))), (1, .inr (.inr (1, 0))), (0, .inr (.inr (2, 5)))], [.inl (1, 1)], w2, 162, 6070)) xfL_1693 rfl ?_
  exact hP.go (r := .inr (some (.inl (1, 1)), w2, 162, 6070)) xfL_1694 rfl (xlaw_end C0 rfl)
end XLW
theorem xfL_1001 : xfetch (xm_t xmL) 1001 = some (.aload_n 1, 0, 0, 0) := by decide +kernel
theorem xfL_1002 : xfetch (xm_t xmL) 1002 = some (.aload_n 0, 0, 0, 0) := by decide +kernel
theorem xfL_1003 : xfetch (xm_t xmL) 1003 = some (.iload_n 3, 0, 0, 0) := by decide +kernel
theorem xfL_1004 : xfetch (xm_t xmL) 1004 = some (.iconst 1, 0, 0, 1) := by decide +kernel
theorem xfL_1005 : xfetch (xm_t xmL) 1005 = some (.iadd, 0, 0, 0) := by decide +kernel
theorem xfL_1006 : xfetch (xm_t xmL) 1006 = some (.iaload, 0, 0, 0) := by decide +kernel
theorem xfL_1007 : xfetch (xm_t xmL) 1007 = some (.aload_n 0, 0, 0, 0) := by decide +kernel
theorem xfL_1008 : xfetch (xm_t xmL) 1008 = some (.iload_n 3, 0, 0, 0) := by decide +kernel
theorem xfL_1009 : xfetch (xm_t xmL) 1009 = some (.iconst 2, 0, 0, 2) := by decide +kernel
theorem xfL_1010 : xfetch (xm_t xmL) 1010 = some (.iadd, 0, 0, 0) := by decide +kernel
theorem xfL_1011 : xfetch (xm_t xmL) 1011 = some (.iaload, 0, 0, 0) := by decide +kernel
theorem xfL_1012 : xfetch (xm_t xmL) 1012 = some (.invokevirtual 112, 79, 3, 0) := by decide +kernel
theorem xfL_1015 : xfetch (xm_t xmL) 1015 = some (.aload_n 2, 0, 0, 0) := by decide +kernel
theorem xfL_1016 : xfetch (xm_t xmL) 1016 = some (.aload_n 0, 0, 0, 0) := by decide +kernel
theorem xfL_1017 : xfetch (xm_t xmL) 1017 = some (.iload_n 3, 0, 0, 0) := by decide +kernel
theorem xfL_1018 : xfetch (xm_t xmL) 1018 = some (.iconst 1, 0, 0, 1) := by decide +kernel
theorem xfL_1019 : xfetch (xm_t xmL) 1019 = some (.iadd, 0, 0, 0) := by decide +kernel
theorem xfL_1020 : xfetch (xm_t xmL) 1020 = some (.iaload, 0, 0, 0) := by decide +kernel
theorem xfL_1021 : xfetch (xm_t xmL) 1021 = some (.aload_n 0, 0, 0, 0) := by decide +kernel
theorem xfL_1022 : xfetch (xm_t xmL) 1022 = some (.iload_n 3, 0, 0, 0) := by decide +kernel
theorem xfL_1023 : xfetch (xm_t xmL) 1023 = some (.iconst 2, 0, 0, 2) := by decide +kernel
theorem xfL_1024 : xfetch (xm_t xmL) 1024 = some (.iadd, 0, 0, 0) := by decide +kernel
theorem xfL_1025 : xfetch (xm_t xmL) 1025 = some (.iaload, 0, 0, 0) := by decide +kernel
theorem xfL_1026 : xfetch (xm_t xmL) 1026 = some (.invokevirtual 115, 184, 3, 0) := by decide +kernel
theorem xfL_1029 : xfetch (xm_t xmL) 1029 = some (.if_icmp .eq 658, 1687, 0, 0) := by decide +kernel
theorem xT_23 : xsteps (xlst 20 xscA) 1 (xS 23) = some (1001, xlv, [], xw0, 162, 6070) := @of_decide_eq_true _ (xd7 _ _) (show @decide _ (xd7 (xsteps (xlst 20 xscA) 1 (xS 23)) (some (1001, xlv, [], xw0, 162, 6070))) = true by decide +kernel)
section XLW
variable {p : Program} {l : Launch} {e : Env} {s : State} {m : MethodId} {below : List Frame} {meth : Method} {c : Code} {b L : Nat} {xs : Nat → Int32} {D : va_G} {tA : Nat → ClassId} {ex : List Nat}
set_option maxRecDepth 100000 in
set_option maxHeartbeats 4000000 in
theorem xlw_23 (C0 : lw_At p s m meth c b L xs) (hEn : ∀ sc : List XV, sc.length = 6 → (∀ (i : Nat) (x : XV), sc[i]? = some x → xv_in [] [] x (.int (xs i))) → XEnv D vwCl (tysX tA) ex (xSTX ++ [sc]) xSV xNW xNF (fun q : Nat => s.heap.size ≤ q) s) {q1 q2 : Int × Int} (h1 : q1.1 ≤ (xs 1).toInt ∧ (xs 1).toInt ≤ q1.2) (h2 : q2.1 ≤ (xs 2).toInt ∧ (xs 2).toInt ≤ q2.2) {z : Int} {w1 w2 : XW} {fs : List XV} (m1 : XMet l D vwCl (tysX tA) tA ex (xSTX ++ [xscA]) xSV xNW xNF xTs xm79 [.inr (.inr (1, 0)), .inl q1, .inl q2] xw0 (some (.inl (z, z))) w1) (hr : w1[57]? = some (.inl (10, fs))) (m2 : XMet l D vwCl (tysX tA) tA ex (xSTX ++ [xscA]) xSV xNW xNF xTs xm184 [.inr (.inr (1, 57)), .inl q1, .inl q2] w1 (some (.inl (z, z))) w2) : XLS p l e s m b below meth c D tA ex (.inl (xS 23)) := by
  have hE := hEn (xsq q1 q2 xtop) rfl (xsq_in h1 h2 (x_rng _))
  have hA := hEn xscA rfl (xscA_in xs)
  have hP : XCl (xlst 20 (xsq q1 q2 xtop)) (fun _ _ => False) (XLS p l e s m b below meth c D tA ex) := ⟨xlaw_step C0 hE, fun S S' h hS => xsat_mono h hS, fun _ _ h => h.elim, fun pc lv lv' st w k n hq hs => xsat_perm hq hs⟩
  refine xsteps_ok (P := XLS p l e s m b below meth c D tA ex) (xlaw_step C0 hA) 1 (xS 23) _ xT_23 ?_
  refine hP.go (r := .inl (1002, xlv, [.inr (.inr (1, 0))], xw0, 162, 6070)) xfL_1001 rfl ?_
  refine hP.go (r := .inl (1003, xlv, [.inr (.inr (2, 5)), .inr (.inr (1, 0))], xw0, 162, 6070)) xfL_1002 rfl ?_
  refine hP.go (r := .inl (1004, xlv, [.inl (0, 0), .inr (.inr (2, 5)), .inr (.inr (1, 0))], xw0, 162, 6070)) xfL_1003 rfl ?_
  refine hP.go (r := .inl (1005, xlv, [.inl (1, 1), .inl (0, 0), .inr (.inr (2, 5)), .inr (.inr (1, 0))], xw0, 162, 6070)) xfL_1004 rfl ?_
  refine hP.go (r := .inl (1006, xlv, [.inl (1, 1), .inr (.inr (2, 5)), .inr (.inr (1, 0))], xw0, 162, 6070)) xfL_1005 rfl ?_
  refine hP.go (r := .inl (1007, xlv, [.inl q1, .inr (.inr (1, 0))], xw0, 162, 6070)) xfL_1006 rfl ?_
  refine hP.go (r := .inl (1008, xlv, [.inr (.inr (2, 5)), .inl q1, .inr (.inr (1, 0))], xw0, 162, 6070)) xfL_1007 rfl ?_
  refine hP.go (r := .inl (1009, xlv, [.inl (0, 0), .inr (.inr (2, 5)), .inl q1, .inr (.inr (1, 0))], xw0, 162, 6070)) xfL_1008 rfl ?_
  refine hP.go (r := .inl (1010, xlv, [.inl (2, 2), .inl (0, 0), .inr (.inr (2, 5)), .inl q1, .inr (.inr (1, 0))], xw0, 162, 6070)) xfL_1009 rfl ?_
  refine hP.go (r := .inl (1011, xlv, [.inl (2, 2), .inr (.inr (2, 5)), .inl q1, .inr (.inr (1, 0))], xw0, 162, 6070)) xfL_1010 rfl ?_
  refine hP.go (r := .inl (1012, xlv, [.inl q2, .inl q1, .inr (.inr (1, 0))], xw0, 162, 6070)) xfL_1011 rfl ?_
  refine xlaw_call C0 hA xfL_1012 rfl m1 (xhc_ok (Nat.le_of_ble_eq_true rfl) (Nat.le_of_ble_eq_true rfl) (Nat.le_of_ble_eq_true rfl) (Nat.le_of_ble_eq_true rfl) (Nat.le_of_ble_eq_true rfl) (Nat.le_of_ble_eq_true rfl) rfl) ?_
  show XLS p l e s m b below meth c D tA ex (.inl (1015, xlv, [.inl (z, z)], w1, 162, 6070))
  refine hP.go (r := .inl (1016, xlv, [.inr (.inr (1, 57)), .inl (z, z)], w1, 162, 6070)) xfL_1015 rfl ?_
  refine hP.go (r := .inl (1017, xlv, [.inr (.inr (2, 5)), .inr (.inr (1, 57)), .inl (z, z)], w1, 162, 6070)) xfL_1016 rfl ?_
  refine hP.go (r := .inl (1018, xlv, [.inl (0, 0), .inr (.inr (2, 5)), .inr (.inr (1, 57)), .inl (z, z)], w1, 162, 6070)) xfL_1017 rfl ?_
  refine hP.go (r := .inl (1019, xlv, [.inl (1, 1), .inl (0, 0), .inr (.inr (2, 5)), .inr (.inr (1, 57)), .inl (z, z)], w1, 162, 6070)) xfL_1018 rfl ?_
  refine hP.go (r := .inl (1020, xlv, [.inl (1, 1), .inr (.inr (2, 5)), .inr (.inr (1, 57)), .inl (z, z)], w1, 162, 6070)) xfL_1019 rfl ?_
  refine hP.go (r := .inl (1021, xlv, [.inl q1, .inr (.inr (1, 57)), .inl (z, z)], w1, 162, 6070)) xfL_1020 rfl ?_
  refine hP.go (r := .inl (1022, xlv, [.inr (.inr (2, 5)), .inl q1, .inr (.inr (1, 57)), .inl (z, z)], w1, 162, 6070)) xfL_1021 rfl ?_
  refine hP.go (r := .inl (1023, xlv, [.inl (0, 0), .inr (.inr (2, 5)), .inl q1, .inr (.inr (1, 57)), .inl (z, z)], w1, 162, 6070)) xfL_1022 rfl ?_
  refine hP.go (r := .inl (1024, xlv, [.inl (2, 2), .inl (0, 0), .inr (.inr (2, 5)), .inl q1, .inr (.inr (1, 57)), .inl (z, z)], w1, 162, 6070)) xfL_1023 rfl ?_
  refine hP.go (r := .inl (1025, xlv, [.inl (2, 2), .inr (.inr (2, 5)), .inl q1, .inr (.inr (1, 57)), .inl (z, z)], w1, 162, 6070)) xfL_1024 rfl ?_
  refine hP.go (r := .inl (1026, xlv, [.inl q2, .inl q1, .inr (.inr (1, 57)), .inl (z, z)], w1, 162, 6070)) xfL_1025 rfl ?_
  refine xlaw_call C0 hA xfL_1026 rfl m2 (xhc_ok (Nat.le_of_ble_eq_true rfl) (Nat.le_of_ble_eq_true rfl) (Nat.le_of_ble_eq_true rfl) (Nat.le_of_ble_eq_true rfl) (Nat.le_of_ble_eq_true rfl) (Nat.le_of_ble_eq_true rfl) (xrecv_of hr)) ?_
  show XLS p l e s m b below meth c D tA ex (.inl (1029, xlv, [.inl (z, z), .inl (z, z)], w2, 162, 6070))
  refine hP.go (r := .inl (1687, xlv, [], w2, 162, 6070)) xfL_1029 (sx_icmp (o := true) (xceq_of.trans (by simp))) ?_
  refine hP.go (r := .inl (1690, [(3, .inl (6, 6)), (2, .inr (.inr (1, 57))), (1, .inr (.inr (1, 0))), (0, .inr (.inr (2, 5)))], [], w2, 162, 6070)) xfL_1687 rfl ?_
  refine hP.go (r := .inl (18, [(3, .inl (6, 6)), (2, .inr (.inr (1, 57))), (1, .inr (.inr (1, 0))), (0, .inr (.inr (2, 5)))], [], w2, 162, 6070)) xfL_1690 rfl ?_
  refine hP.go (r := .inl (19, [(3, .inl (6, 6)), (2, .inr (.inr (1, 57))), (1, .inr (.inr (1, 0))), (0, .inr (.inr (2, 5)))], [.inl (6, 6)], w2, 162, 6070)) xfL_18 rfl ?_
  refine hP.go (r := .inl (20, [(3, .inl (6, 6)), (2, .inr (.inr (1, 57))), (1, .inr (.inr (1, 0))), (0, .inr (.inr (2, 5)))], [.inr (.inr (2, 5)), .inl (6, 6)], w2, 162, 6070)) xfL_19 rfl ?_
  refine hP.go (r := .inl (21, [(3, .inl (6, 6)), (2, .inr (.inr (1, 57))), (1, .inr (.inr (1, 0))), (0, .inr (.inr (2, 5)))], [.inl (6, 6), .inl (6, 6)], w2, 162, 6070)) xfL_20 rfl ?_
  refine hP.go (r := .inl (23, [(3, .inl (6, 6)), (2, .inr (.inr (1, 57))), (1, .inr (.inr (1, 0))), (0, .inr (.inr (2, 5)))], [.inl (6, 6), .inl (6, 6), .inl (6, 6)], w2, 162, 6070)) xfL_21 rfl ?_
  refine hP.go (r := .inl (24, [(3, .inl (6, 6)), (2, .inr (.inr (1, 57))), (1, .inr (.inr (1, 0))), (0, .inr (.inr (2, 5)))], [.inl (0, 0), .inl (6, 6)], w2, 162, 6070)) xfL_23 rfl ?_
  refine hP.go (r := .inl (1693, [(3, .inl (6, 6)), (2, .inr (.inr (1, 57))), (1, .inr (.inr (1, 0))), (0, .inr (.inr (2, 5)))], [], w2, 162, 6070)) xfL_24 rfl ?_
  refine hP.go (r := .inl (1694, [(3, .inl (6, 6)), (2, .inr (.inr (1, 57))), (1, .inr (.inr (1, 0))), (0, .inr (.inr (2, 5)))], [.inl (1, 1)], w2, 162, 6070)) xfL_1693 rfl ?_
  exact hP.go (r := .inr (some (.inl (1, 1)), w2, 162, 6070)) xfL_1694 rfl (xlaw_end C0 rfl)
end XLW
theorem xfL_1034 : xfetch (xm_t xmL) 1034 = some (.aload_n 1, 0, 0, 0) := by decide +kernel
theorem xfL_1035 : xfetch (xm_t xmL) 1035 = some (.aload_n 0, 0, 0, 0) := by decide +kernel
theorem xfL_1036 : xfetch (xm_t xmL) 1036 = some (.iload_n 3, 0, 0, 0) := by decide +kernel
theorem xfL_1037 : xfetch (xm_t xmL) 1037 = some (.iconst 1, 0, 0, 1) := by decide +kernel
theorem xfL_1038 : xfetch (xm_t xmL) 1038 = some (.iadd, 0, 0, 0) := by decide +kernel
theorem xfL_1039 : xfetch (xm_t xmL) 1039 = some (.iaload, 0, 0, 0) := by decide +kernel
theorem xfL_1040 : xfetch (xm_t xmL) 1040 = some (.aload_n 0, 0, 0, 0) := by decide +kernel
theorem xfL_1041 : xfetch (xm_t xmL) 1041 = some (.iload_n 3, 0, 0, 0) := by decide +kernel
theorem xfL_1042 : xfetch (xm_t xmL) 1042 = some (.iconst 2, 0, 0, 2) := by decide +kernel
theorem xfL_1043 : xfetch (xm_t xmL) 1043 = some (.iadd, 0, 0, 0) := by decide +kernel
theorem xfL_1044 : xfetch (xm_t xmL) 1044 = some (.iaload, 0, 0, 0) := by decide +kernel
theorem xfL_1045 : xfetch (xm_t xmL) 1045 = some (.aload_n 0, 0, 0, 0) := by decide +kernel
theorem xfL_1046 : xfetch (xm_t xmL) 1046 = some (.iload_n 3, 0, 0, 0) := by decide +kernel
theorem xfL_1047 : xfetch (xm_t xmL) 1047 = some (.iconst 3, 0, 0, 3) := by decide +kernel
theorem xfL_1048 : xfetch (xm_t xmL) 1048 = some (.iadd, 0, 0, 0) := by decide +kernel
theorem xfL_1049 : xfetch (xm_t xmL) 1049 = some (.iaload, 0, 0, 0) := by decide +kernel
theorem xfL_1050 : xfetch (xm_t xmL) 1050 = some (.invokevirtual 116, 82, 4, 0) := by decide +kernel
theorem xfL_1053 : xfetch (xm_t xmL) 1053 = some (.aload_n 2, 0, 0, 0) := by decide +kernel
theorem xfL_1054 : xfetch (xm_t xmL) 1054 = some (.aload_n 0, 0, 0, 0) := by decide +kernel
theorem xfL_1055 : xfetch (xm_t xmL) 1055 = some (.iload_n 3, 0, 0, 0) := by decide +kernel
theorem xfL_1056 : xfetch (xm_t xmL) 1056 = some (.iconst 1, 0, 0, 1) := by decide +kernel
theorem xfL_1057 : xfetch (xm_t xmL) 1057 = some (.iadd, 0, 0, 0) := by decide +kernel
theorem xfL_1058 : xfetch (xm_t xmL) 1058 = some (.iaload, 0, 0, 0) := by decide +kernel
theorem xfL_1059 : xfetch (xm_t xmL) 1059 = some (.aload_n 0, 0, 0, 0) := by decide +kernel
theorem xfL_1060 : xfetch (xm_t xmL) 1060 = some (.iload_n 3, 0, 0, 0) := by decide +kernel
theorem xfL_1061 : xfetch (xm_t xmL) 1061 = some (.iconst 2, 0, 0, 2) := by decide +kernel
theorem xfL_1062 : xfetch (xm_t xmL) 1062 = some (.iadd, 0, 0, 0) := by decide +kernel
theorem xfL_1063 : xfetch (xm_t xmL) 1063 = some (.iaload, 0, 0, 0) := by decide +kernel
theorem xfL_1064 : xfetch (xm_t xmL) 1064 = some (.aload_n 0, 0, 0, 0) := by decide +kernel
theorem xfL_1065 : xfetch (xm_t xmL) 1065 = some (.iload_n 3, 0, 0, 0) := by decide +kernel
theorem xfL_1066 : xfetch (xm_t xmL) 1066 = some (.iconst 3, 0, 0, 3) := by decide +kernel
theorem xfL_1067 : xfetch (xm_t xmL) 1067 = some (.iadd, 0, 0, 0) := by decide +kernel
theorem xfL_1068 : xfetch (xm_t xmL) 1068 = some (.iaload, 0, 0, 0) := by decide +kernel
theorem xfL_1069 : xfetch (xm_t xmL) 1069 = some (.invokevirtual 119, 213, 4, 0) := by decide +kernel
theorem xfL_1072 : xfetch (xm_t xmL) 1072 = some (.if_icmp .eq 615, 1687, 0, 0) := by decide +kernel
theorem xT_24 : xsteps (xlst 20 xscA) 1 (xS 24) = some (1034, xlv, [], xw0, 162, 6070) := @of_decide_eq_true _ (xd7 _ _) (show @decide _ (xd7 (xsteps (xlst 20 xscA) 1 (xS 24)) (some (1034, xlv, [], xw0, 162, 6070))) = true by decide +kernel)
section XLW
variable {p : Program} {l : Launch} {e : Env} {s : State} {m : MethodId} {below : List Frame} {meth : Method} {c : Code} {b L : Nat} {xs : Nat → Int32} {D : va_G} {tA : Nat → ClassId} {ex : List Nat}
set_option maxRecDepth 100000 in
set_option maxHeartbeats 4000000 in
theorem xlw_24 (C0 : lw_At p s m meth c b L xs) (hEn : ∀ sc : List XV, sc.length = 6 → (∀ (i : Nat) (x : XV), sc[i]? = some x → xv_in [] [] x (.int (xs i))) → XEnv D vwCl (tysX tA) ex (xSTX ++ [sc]) xSV xNW xNF (fun q : Nat => s.heap.size ≤ q) s) {q1 q2 q3 : Int × Int} (h1 : q1.1 ≤ (xs 1).toInt ∧ (xs 1).toInt ≤ q1.2) (h2 : q2.1 ≤ (xs 2).toInt ∧ (xs 2).toInt ≤ q2.2) (h3 : q3.1 ≤ (xs 3).toInt ∧ (xs 3).toInt ≤ q3.2) {z : Int} {w1 w2 : XW} {fs : List XV} (m1 : XMet l D vwCl (tysX tA) tA ex (xSTX ++ [xscA]) xSV xNW xNF xTs xm82 [.inr (.inr (1, 0)), .inl q1, .inl q2, .inl q3] xw0 (some (.inl (z, z))) w1) (hr : w1[57]? = some (.inl (10, fs))) (m2 : XMet l D vwCl (tysX tA) tA ex (xSTX ++ [xscA]) xSV xNW xNF xTs xm213 [.inr (.inr (1, 57)), .inl q1, .inl q2, .inl q3] w1 (some (.inl (z, z))) w2) : XLS p l e s m b below meth c D tA ex (.inl (xS 24)) := by
  have hE := hEn (xsq q1 q2 q3) rfl (xsq_in h1 h2 h3)
  have hA := hEn xscA rfl (xscA_in xs)
  have hP : XCl (xlst 20 (xsq q1 q2 q3)) (fun _ _ => False) (XLS p l e s m b below meth c D tA ex) := ⟨xlaw_step C0 hE, fun S S' h hS => xsat_mono h hS, fun _ _ h => h.elim, fun pc lv lv' st w k n hq hs => xsat_perm hq hs⟩
  refine xsteps_ok (P := XLS p l e s m b below meth c D tA ex) (xlaw_step C0 hA) 1 (xS 24) _ xT_24 ?_
  refine hP.go (r := .inl (1035, xlv, [.inr (.inr (1, 0))], xw0, 162, 6070)) xfL_1034 rfl ?_
  refine hP.go (r := .inl (1036, xlv, [.inr (.inr (2, 5)), .inr (.inr (1, 0))], xw0, 162, 6070)) xfL_1035 rfl ?_
  refine hP.go (r := .inl (1037, xlv, [.inl (0, 0), .inr (.inr (2, 5)), .inr (.inr (1, 0))], xw0, 162, 6070)) xfL_1036 rfl ?_
  refine hP.go (r := .inl (1038, xlv, [.inl (1, 1), .inl (0, 0), .inr (.inr (2, 5)), .inr (.inr (1, 0))], xw0, 162, 6070)) xfL_1037 rfl ?_
  refine hP.go (r := .inl (1039, xlv, [.inl (1, 1), .inr (.inr (2, 5)), .inr (.inr (1, 0))], xw0, 162, 6070)) xfL_1038 rfl ?_
  refine hP.go (r := .inl (1040, xlv, [.inl q1, .inr (.inr (1, 0))], xw0, 162, 6070)) xfL_1039 rfl ?_
  refine hP.go (r := .inl (1041, xlv, [.inr (.inr (2, 5)), .inl q1, .inr (.inr (1, 0))], xw0, 162, 6070)) xfL_1040 rfl ?_
  refine hP.go (r := .inl (1042, xlv, [.inl (0, 0), .inr (.inr (2, 5)), .inl q1, .inr (.inr (1, 0))], xw0, 162, 6070)) xfL_1041 rfl ?_
  refine hP.go (r := .inl (1043, xlv, [.inl (2, 2), .inl (0, 0), .inr (.inr (2, 5)), .inl q1, .inr (.inr (1, 0))], xw0, 162, 6070)) xfL_1042 rfl ?_
  refine hP.go (r := .inl (1044, xlv, [.inl (2, 2), .inr (.inr (2, 5)), .inl q1, .inr (.inr (1, 0))], xw0, 162, 6070)) xfL_1043 rfl ?_
  refine hP.go (r := .inl (1045, xlv, [.inl q2, .inl q1, .inr (.inr (1, 0))], xw0, 162, 6070)) xfL_1044 rfl ?_
  refine hP.go (r := .inl (1046, xlv, [.inr (.inr (2, 5)), .inl q2, .inl q1, .inr (.inr (1, 0))], xw0, 162, 6070)) xfL_1045 rfl ?_
  refine hP.go (r := .inl (1047, xlv, [.inl (0, 0), .inr (.inr (2, 5)), .inl q2, .inl q1, .inr (.inr (1, 0))], xw0, 162, 6070)) xfL_1046 rfl ?_
  refine hP.go (r := .inl (1048, xlv, [.inl (3, 3), .inl (0, 0), .inr (.inr (2, 5)), .inl q2, .inl q1, .inr (.inr (1, 0))], xw0, 162, 6070)) xfL_1047 rfl ?_
  refine hP.go (r := .inl (1049, xlv, [.inl (3, 3), .inr (.inr (2, 5)), .inl q2, .inl q1, .inr (.inr (1, 0))], xw0, 162, 6070)) xfL_1048 rfl ?_
  refine hP.go (r := .inl (1050, xlv, [.inl q3, .inl q2, .inl q1, .inr (.inr (1, 0))], xw0, 162, 6070)) xfL_1049 rfl ?_
  refine xlaw_call C0 hA xfL_1050 rfl m1 (xhc_ok (Nat.le_of_ble_eq_true rfl) (Nat.le_of_ble_eq_true rfl) (Nat.le_of_ble_eq_true rfl) (Nat.le_of_ble_eq_true rfl) (Nat.le_of_ble_eq_true rfl) (Nat.le_of_ble_eq_true rfl) rfl) ?_
  show XLS p l e s m b below meth c D tA ex (.inl (1053, xlv, [.inl (z, z)], w1, 165, 6089))
  refine hP.go (r := .inl (1054, xlv, [.inr (.inr (1, 57)), .inl (z, z)], w1, 165, 6089)) xfL_1053 rfl ?_
  refine hP.go (r := .inl (1055, xlv, [.inr (.inr (2, 5)), .inr (.inr (1, 57)), .inl (z, z)], w1, 165, 6089)) xfL_1054 rfl ?_
  refine hP.go (r := .inl (1056, xlv, [.inl (0, 0), .inr (.inr (2, 5)), .inr (.inr (1, 57)), .inl (z, z)], w1, 165, 6089)) xfL_1055 rfl ?_
  refine hP.go (r := .inl (1057, xlv, [.inl (1, 1), .inl (0, 0), .inr (.inr (2, 5)), .inr (.inr (1, 57)), .inl (z, z)], w1, 165, 6089)) xfL_1056 rfl ?_
  refine hP.go (r := .inl (1058, xlv, [.inl (1, 1), .inr (.inr (2, 5)), .inr (.inr (1, 57)), .inl (z, z)], w1, 165, 6089)) xfL_1057 rfl ?_
  refine hP.go (r := .inl (1059, xlv, [.inl q1, .inr (.inr (1, 57)), .inl (z, z)], w1, 165, 6089)) xfL_1058 rfl ?_
  refine hP.go (r := .inl (1060, xlv, [.inr (.inr (2, 5)), .inl q1, .inr (.inr (1, 57)), .inl (z, z)], w1, 165, 6089)) xfL_1059 rfl ?_
  refine hP.go (r := .inl (1061, xlv, [.inl (0, 0), .inr (.inr (2, 5)), .inl q1, .inr (.inr (1, 57)), .inl (z, z)], w1, 165, 6089)) xfL_1060 rfl ?_
  refine hP.go (r := .inl (1062, xlv, [.inl (2, 2), .inl (0, 0), .inr (.inr (2, 5)), .inl q1, .inr (.inr (1, 57)), .inl (z, z)], w1, 165, 6089)) xfL_1061 rfl ?_
  refine hP.go (r := .inl (1063, xlv, [.inl (2, 2), .inr (.inr (2, 5)), .inl q1, .inr (.inr (1, 57)), .inl (z, z)], w1, 165, 6089)) xfL_1062 rfl ?_
  refine hP.go (r := .inl (1064, xlv, [.inl q2, .inl q1, .inr (.inr (1, 57)), .inl (z, z)], w1, 165, 6089)) xfL_1063 rfl ?_
  refine hP.go (r := .inl (1065, xlv, [.inr (.inr (2, 5)), .inl q2, .inl q1, .inr (.inr (1, 57)), .inl (z, z)], w1, 165, 6089)) xfL_1064 rfl ?_
  refine hP.go (r := .inl (1066, xlv, [.inl (0, 0), .inr (.inr (2, 5)), .inl q2, .inl q1, .inr (.inr (1, 57)), .inl (z, z)], w1, 165, 6089)) xfL_1065 rfl ?_
  refine hP.go (r := .inl (1067, xlv, [.inl (3, 3), .inl (0, 0), .inr (.inr (2, 5)), .inl q2, .inl q1, .inr (.inr (1, 57)), .inl (z, z)], w1, 165, 6089)) xfL_1066 rfl ?_
  refine hP.go (r := .inl (1068, xlv, [.inl (3, 3), .inr (.inr (2, 5)), .inl q2, .inl q1, .inr (.inr (1, 57)), .inl (z, z)], w1, 165, 6089)) xfL_1067 rfl ?_
  refine hP.go (r := .inl (1069, xlv, [.inl q3, .inl q2, .inl q1, .inr (.inr (1, 57)), .inl (z, z)], w1, 165, 6089)) xfL_1068 rfl ?_
  refine xlaw_call C0 hA xfL_1069 rfl m2 (xhc_ok (Nat.le_of_ble_eq_true rfl) (Nat.le_of_ble_eq_true rfl) (Nat.le_of_ble_eq_true rfl) (Nat.le_of_ble_eq_true rfl) (Nat.le_of_ble_eq_true rfl) (Nat.le_of_ble_eq_true rfl) (xrecv_of hr)) ?_
  show XLS p l e s m b below meth c D tA ex (.inl (1072, xlv, [.inl (z, z), .inl (z, z)], w2, 165, 6089))
  refine hP.go (r := .inl (1687, xlv, [], w2, 165, 6089)) xfL_1072 (sx_icmp (o := true) (xceq_of.trans (by simp))) ?_
  refine hP.go (r := .inl (1690, [(3, .inl (6, 6)), (2, .inr (.inr (1, 57))), (1, .inr (.inr (1, 0))), (0, .inr (.inr (2, 5)))], [], w2, 165, 6089)) xfL_1687 rfl ?_
  refine hP.go (r := .inl (18, [(3, .inl (6, 6)), (2, .inr (.inr (1, 57))), (1, .inr (.inr (1, 0))), (0, .inr (.inr (2, 5)))], [], w2, 165, 6089)) xfL_1690 rfl ?_
  refine hP.go (r := .inl (19, [(3, .inl (6, 6)), (2, .inr (.inr (1, 57))), (1, .inr (.inr (1, 0))), (0, .inr (.inr (2, 5)))], [.inl (6, 6)], w2, 165, 6089)) xfL_18 rfl ?_
  refine hP.go (r := .inl (20, [(3, .inl (6, 6)), (2, .inr (.inr (1, 57))), (1, .inr (.inr (1, 0))), (0, .inr (.inr (2, 5)))], [.inr (.inr (2, 5)), .inl (6, 6)], w2, 165, 6089)) xfL_19 rfl ?_
  refine hP.go (r := .inl (21, [(3, .inl (6, 6)), (2, .inr (.inr (1, 57))), (1, .inr (.inr (1, 0))), (0, .inr (.inr (2, 5)))], [.inl (6, 6), .inl (6, 6)], w2, 165, 6089)) xfL_20 rfl ?_
  refine hP.go (r := .inl (23, [(3, .inl (6, 6)), (2, .inr (.inr (1, 57))), (1, .inr (.inr (1, 0))), (0, .inr (.inr (2, 5)))], [.inl (6, 6), .inl (6, 6), .inl (6, 6)], w2, 165, 6089)) xfL_21 rfl ?_
  refine hP.go (r := .inl (24, [(3, .inl (6, 6)), (2, .inr (.inr (1, 57))), (1, .inr (.inr (1, 0))), (0, .inr (.inr (2, 5)))], [.inl (0, 0), .inl (6, 6)], w2, 165, 6089)) xfL_23 rfl ?_
  refine hP.go (r := .inl (1693, [(3, .inl (6, 6)), (2, .inr (.inr (1, 57))), (1, .inr (.inr (1, 0))), (0, .inr (.inr (2, 5)))], [], w2, 165, 6089)) xfL_24 rfl ?_
  refine hP.go (r := .inl (1694, [(3, .inl (6, 6)), (2, .inr (.inr (1, 57))), (1, .inr (.inr (1, 0))), (0, .inr (.inr (2, 5)))], [.inl (1, 1)], w2, 165, 6089)) xfL_1693 rfl ?_
  exact hP.go (r := .inr (some (.inl (1, 1)), w2, 165, 6089)) xfL_1694 rfl (xlaw_end C0 rfl)
end XLW
theorem xfL_1450 : xfetch (xm_t xmL) 1450 = some (.aload_n 1, 0, 0, 0) := by decide +kernel
theorem xfL_1451 : xfetch (xm_t xmL) 1451 = some (.aload_n 0, 0, 0, 0) := by decide +kernel
theorem xfL_1452 : xfetch (xm_t xmL) 1452 = some (.iload_n 3, 0, 0, 0) := by decide +kernel
theorem xfL_1453 : xfetch (xm_t xmL) 1453 = some (.iconst 1, 0, 0, 1) := by decide +kernel
theorem xfL_1454 : xfetch (xm_t xmL) 1454 = some (.iadd, 0, 0, 0) := by decide +kernel
theorem xfL_1455 : xfetch (xm_t xmL) 1455 = some (.iaload, 0, 0, 0) := by decide +kernel
theorem xfL_1456 : xfetch (xm_t xmL) 1456 = some (.aload_n 0, 0, 0, 0) := by decide +kernel
theorem xfL_1457 : xfetch (xm_t xmL) 1457 = some (.iload_n 3, 0, 0, 0) := by decide +kernel
theorem xfL_1458 : xfetch (xm_t xmL) 1458 = some (.iconst 2, 0, 0, 2) := by decide +kernel
theorem xfL_1459 : xfetch (xm_t xmL) 1459 = some (.iadd, 0, 0, 0) := by decide +kernel
theorem xfL_1460 : xfetch (xm_t xmL) 1460 = some (.iaload, 0, 0, 0) := by decide +kernel
theorem xfL_1461 : xfetch (xm_t xmL) 1461 = some (.invokevirtual 164, 116, 3, 0) := by decide +kernel
theorem xfL_1464 : xfetch (xm_t xmL) 1464 = some (.aload_n 2, 0, 0, 0) := by decide +kernel
theorem xfL_1465 : xfetch (xm_t xmL) 1465 = some (.aload_n 0, 0, 0, 0) := by decide +kernel
theorem xfL_1466 : xfetch (xm_t xmL) 1466 = some (.iload_n 3, 0, 0, 0) := by decide +kernel
theorem xfL_1467 : xfetch (xm_t xmL) 1467 = some (.iconst 1, 0, 0, 1) := by decide +kernel
theorem xfL_1468 : xfetch (xm_t xmL) 1468 = some (.iadd, 0, 0, 0) := by decide +kernel
theorem xfL_1469 : xfetch (xm_t xmL) 1469 = some (.iaload, 0, 0, 0) := by decide +kernel
theorem xfL_1470 : xfetch (xm_t xmL) 1470 = some (.aload_n 0, 0, 0, 0) := by decide +kernel
theorem xfL_1471 : xfetch (xm_t xmL) 1471 = some (.iload_n 3, 0, 0, 0) := by decide +kernel
theorem xfL_1472 : xfetch (xm_t xmL) 1472 = some (.iconst 2, 0, 0, 2) := by decide +kernel
theorem xfL_1473 : xfetch (xm_t xmL) 1473 = some (.iadd, 0, 0, 0) := by decide +kernel
theorem xfL_1474 : xfetch (xm_t xmL) 1474 = some (.iaload, 0, 0, 0) := by decide +kernel
theorem xfL_1475 : xfetch (xm_t xmL) 1475 = some (.invokevirtual 167, 235, 3, 0) := by decide +kernel
theorem xfL_1478 : xfetch (xm_t xmL) 1478 = some (.if_icmp .eq 209, 1687, 0, 0) := by decide +kernel
theorem xT_36 : xsteps (xlst 20 xscA) 1 (xS 36) = some (1450, xlv, [], xw0, 162, 6070) := @of_decide_eq_true _ (xd7 _ _) (show @decide _ (xd7 (xsteps (xlst 20 xscA) 1 (xS 36)) (some (1450, xlv, [], xw0, 162, 6070))) = true by decide +kernel)
section XLW
variable {p : Program} {l : Launch} {e : Env} {s : State} {m : MethodId} {below : List Frame} {meth : Method} {c : Code} {b L : Nat} {xs : Nat → Int32} {D : va_G} {tA : Nat → ClassId} {ex : List Nat}
set_option maxRecDepth 100000 in
set_option maxHeartbeats 4000000 in
theorem xlw_36 (C0 : lw_At p s m meth c b L xs) (hEn : ∀ sc : List XV, sc.length = 6 → (∀ (i : Nat) (x : XV), sc[i]? = some x → xv_in [] [] x (.int (xs i))) → XEnv D vwCl (tysX tA) ex (xSTX ++ [sc]) xSV xNW xNF (fun q : Nat => s.heap.size ≤ q) s) {q1 q2 : Int × Int} (h1 : q1.1 ≤ (xs 1).toInt ∧ (xs 1).toInt ≤ q1.2) (h2 : q2.1 ≤ (xs 2).toInt ∧ (xs 2).toInt ≤ q2.2) {z : Int} {w1 w2 : XW} {fs : List XV} (m1 : XMet l D vwCl (tysX tA) tA ex (xSTX ++ [xscA]) xSV xNW xNF xTs xm116 [.inr (.inr (1, 0)), .inl q1, .inl q2] xw0 (some (.inl (z, z))) w1) (hr : w1[57]? = some (.inl (10, fs))) (m2 : XMet l D vwCl (tysX tA) tA ex (xSTX ++ [xscA]) xSV xNW xNF xTs xm235 [.inr (.inr (1, 57)), .inl q1, .inl q2] w1 (some (.inl (z, z))) w2) : XLS p l e s m b below meth c D tA ex (.inl (xS 36)) := by
  have hE := hEn (xsq q1 q2 xtop) rfl (xsq_in h1 h2 (x_rng _))
  have hA := hEn xscA rfl (xscA_in xs)
  have hP : XCl (xlst 20 (xsq q1 q2 xtop)) (fun _ _ => False) (XLS p l e s m b below meth c D tA ex) := ⟨xlaw_step C0 hE, fun S S' h hS => xsat_mono h hS, fun _ _ h => h.elim, fun pc lv lv' st w k n hq hs => xsat_perm hq hs⟩
  refine xsteps_ok (P := XLS p l e s m b below meth c D tA ex) (xlaw_step C0 hA) 1 (xS 36) _ xT_36 ?_
  refine hP.go (r := .inl (1451, xlv, [.inr (.inr (1, 0))], xw0, 162, 6070)) xfL_1450 rfl ?_
  refine hP.go (r := .inl (1452, xlv, [.inr (.inr (2, 5)), .inr (.inr (1, 0))], xw0, 162, 6070)) xfL_1451 rfl ?_
  refine hP.go (r := .inl (1453, xlv, [.inl (0, 0), .inr (.inr (2, 5)), .inr (.inr (1, 0))], xw0, 162, 6070)) xfL_1452 rfl ?_
  refine hP.go (r := .inl (1454, xlv, [.inl (1, 1), .inl (0, 0), .inr (.inr (2, 5)), .inr (.inr (1, 0))], xw0, 162, 6070)) xfL_1453 rfl ?_
  refine hP.go (r := .inl (1455, xlv, [.inl (1, 1), .inr (.inr (2, 5)), .inr (.inr (1, 0))], xw0, 162, 6070)) xfL_1454 rfl ?_
  refine hP.go (r := .inl (1456, xlv, [.inl q1, .inr (.inr (1, 0))], xw0, 162, 6070)) xfL_1455 rfl ?_
  refine hP.go (r := .inl (1457, xlv, [.inr (.inr (2, 5)), .inl q1, .inr (.inr (1, 0))], xw0, 162, 6070)) xfL_1456 rfl ?_
  refine hP.go (r := .inl (1458, xlv, [.inl (0, 0), .inr (.inr (2, 5)), .inl q1, .inr (.inr (1, 0))], xw0, 162, 6070)) xfL_1457 rfl ?_
  refine hP.go (r := .inl (1459, xlv, [.inl (2, 2), .inl (0, 0), .inr (.inr (2, 5)), .inl q1, .inr (.inr (1, 0))], xw0, 162, 6070)) xfL_1458 rfl ?_
  refine hP.go (r := .inl (1460, xlv, [.inl (2, 2), .inr (.inr (2, 5)), .inl q1, .inr (.inr (1, 0))], xw0, 162, 6070)) xfL_1459 rfl ?_
  refine hP.go (r := .inl (1461, xlv, [.inl q2, .inl q1, .inr (.inr (1, 0))], xw0, 162, 6070)) xfL_1460 rfl ?_
  refine xlaw_call C0 hA xfL_1461 rfl m1 (xhc_ok (Nat.le_of_ble_eq_true rfl) (Nat.le_of_ble_eq_true rfl) (Nat.le_of_ble_eq_true rfl) (Nat.le_of_ble_eq_true rfl) (Nat.le_of_ble_eq_true rfl) (Nat.le_of_ble_eq_true rfl) rfl) ?_
  show XLS p l e s m b below meth c D tA ex (.inl (1464, xlv, [.inl (z, z)], w1, 162, 6070))
  refine hP.go (r := .inl (1465, xlv, [.inr (.inr (1, 57)), .inl (z, z)], w1, 162, 6070)) xfL_1464 rfl ?_
  refine hP.go (r := .inl (1466, xlv, [.inr (.inr (2, 5)), .inr (.inr (1, 57)), .inl (z, z)], w1, 162, 6070)) xfL_1465 rfl ?_
  refine hP.go (r := .inl (1467, xlv, [.inl (0, 0), .inr (.inr (2, 5)), .inr (.inr (1, 57)), .inl (z, z)], w1, 162, 6070)) xfL_1466 rfl ?_
  refine hP.go (r := .inl (1468, xlv, [.inl (1, 1), .inl (0, 0), .inr (.inr (2, 5)), .inr (.inr (1, 57)), .inl (z, z)], w1, 162, 6070)) xfL_1467 rfl ?_
  refine hP.go (r := .inl (1469, xlv, [.inl (1, 1), .inr (.inr (2, 5)), .inr (.inr (1, 57)), .inl (z, z)], w1, 162, 6070)) xfL_1468 rfl ?_
  refine hP.go (r := .inl (1470, xlv, [.inl q1, .inr (.inr (1, 57)), .inl (z, z)], w1, 162, 6070)) xfL_1469 rfl ?_
  refine hP.go (r := .inl (1471, xlv, [.inr (.inr (2, 5)), .inl q1, .inr (.inr (1, 57)), .inl (z, z)], w1, 162, 6070)) xfL_1470 rfl ?_
  refine hP.go (r := .inl (1472, xlv, [.inl (0, 0), .inr (.inr (2, 5)), .inl q1, .inr (.inr (1, 57)), .inl (z, z)], w1, 162, 6070)) xfL_1471 rfl ?_
  refine hP.go (r := .inl (1473, xlv, [.inl (2, 2), .inl (0, 0), .inr (.inr (2, 5)), .inl q1, .inr (.inr (1, 57)), .inl (z, z)], w1, 162, 6070)) xfL_1472 rfl ?_
  refine hP.go (r := .inl (1474, xlv, [.inl (2, 2), .inr (.inr (2, 5)), .inl q1, .inr (.inr (1, 57)), .inl (z, z)], w1, 162, 6070)) xfL_1473 rfl ?_
  refine hP.go (r := .inl (1475, xlv, [.inl q2, .inl q1, .inr (.inr (1, 57)), .inl (z, z)], w1, 162, 6070)) xfL_1474 rfl ?_
  refine xlaw_call C0 hA xfL_1475 rfl m2 (xhc_ok (Nat.le_of_ble_eq_true rfl) (Nat.le_of_ble_eq_true rfl) (Nat.le_of_ble_eq_true rfl) (Nat.le_of_ble_eq_true rfl) (Nat.le_of_ble_eq_true rfl) (Nat.le_of_ble_eq_true rfl) (xrecv_of hr)) ?_
  show XLS p l e s m b below meth c D tA ex (.inl (1478, xlv, [.inl (z, z), .inl (z, z)], w2, 162, 6070))
  refine hP.go (r := .inl (1687, xlv, [], w2, 162, 6070)) xfL_1478 (sx_icmp (o := true) (xceq_of.trans (by simp))) ?_
  refine hP.go (r := .inl (1690, [(3, .inl (6, 6)), (2, .inr (.inr (1, 57))), (1, .inr (.inr (1, 0))), (0, .inr (.inr (2, 5)))], [], w2, 162, 6070)) xfL_1687 rfl ?_
  refine hP.go (r := .inl (18, [(3, .inl (6, 6)), (2, .inr (.inr (1, 57))), (1, .inr (.inr (1, 0))), (0, .inr (.inr (2, 5)))], [], w2, 162, 6070)) xfL_1690 rfl ?_
  refine hP.go (r := .inl (19, [(3, .inl (6, 6)), (2, .inr (.inr (1, 57))), (1, .inr (.inr (1, 0))), (0, .inr (.inr (2, 5)))], [.inl (6, 6)], w2, 162, 6070)) xfL_18 rfl ?_
  refine hP.go (r := .inl (20, [(3, .inl (6, 6)), (2, .inr (.inr (1, 57))), (1, .inr (.inr (1, 0))), (0, .inr (.inr (2, 5)))], [.inr (.inr (2, 5)), .inl (6, 6)], w2, 162, 6070)) xfL_19 rfl ?_
  refine hP.go (r := .inl (21, [(3, .inl (6, 6)), (2, .inr (.inr (1, 57))), (1, .inr (.inr (1, 0))), (0, .inr (.inr (2, 5)))], [.inl (6, 6), .inl (6, 6)], w2, 162, 6070)) xfL_20 rfl ?_
  refine hP.go (r := .inl (23, [(3, .inl (6, 6)), (2, .inr (.inr (1, 57))), (1, .inr (.inr (1, 0))), (0, .inr (.inr (2, 5)))], [.inl (6, 6), .inl (6, 6), .inl (6, 6)], w2, 162, 6070)) xfL_21 rfl ?_
  refine hP.go (r := .inl (24, [(3, .inl (6, 6)), (2, .inr (.inr (1, 57))), (1, .inr (.inr (1, 0))), (0, .inr (.inr (2, 5)))], [.inl (0, 0), .inl (6, 6)], w2, 162, 6070)) xfL_23 rfl ?_
  refine hP.go (r := .inl (1693, [(3, .inl (6, 6)), (2, .inr (.inr (1, 57))), (1, .inr (.inr (1, 0))), (0, .inr (.inr (2, 5)))], [], w2, 162, 6070)) xfL_24 rfl ?_
  refine hP.go (r := .inl (1694, [(3, .inl (6, 6)), (2, .inr (.inr (1, 57))), (1, .inr (.inr (1, 0))), (0, .inr (.inr (2, 5)))], [.inl (1, 1)], w2, 162, 6070)) xfL_1693 rfl ?_
  exact hP.go (r := .inr (some (.inl (1, 1)), w2, 162, 6070)) xfL_1694 rfl (xlaw_end C0 rfl)
end XLW
