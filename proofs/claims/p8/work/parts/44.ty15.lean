/-! ===== every instruction of the typed layer ===== -/
section YI
variable {f : XS → Option XR} {J : XS → XS → Prop} {Post : Option XV × XW × Nat × Nat → Prop} {KD : Nat → Option YK} {ks : List Nat} {ow : XW → Prop} {n0 : Nat} {r0 : YR} {Y : YS} {outs : List YO}
def yh_ci (d : Nat) (z : Int) (Y : YS) : Option (List YO) := if -2147483648 ≤ z ∧ z ≤ 2147483647 then yh_push d (.inl (ycst z)) Y else none
theorem yo_ci {d : Nat} {z : Int} (h : yh_ci d z Y = some outs) (hg : ∀ o ∈ outs, ygoodO f J Post KD ks ow n0 r0 o) : yone f J Post KD ks ow n0 r0 Y (fun lv st w => xh_push d (xi z) Y.1 lv st w 0 0) := by
  unfold yh_ci at h
  split at h
  · rename_i hz
    refine yo_push (fun r => ?_) h hg
    show xi z = .inl (yev (yi r) (ycst z), yev (yi r) (ycst z)) ∧ _ ∧ _
    rw [ycst_ev]
    exact ⟨rfl, hz.1, hz.2⟩
  · cases h
def yh_cl (d : Nat) (z : Int) (Y : YS) : Option (List YO) := if -9223372036854775808 ≤ z ∧ z ≤ 9223372036854775807 then yh_push d (.inr (.inl (ycst z))) Y else none
theorem yo_cl {d : Nat} {z : Int} (h : yh_cl d z Y = some outs) (hg : ∀ o ∈ outs, ygoodO f J Post KD ks ow n0 r0 o) : yone f J Post KD ks ow n0 r0 Y (fun lv st w => xh_push d (.inr (.inl (some z))) Y.1 lv st w 0 0) := by
  unfold yh_cl at h
  split at h
  · rename_i hz
    refine yo_push (fun r => ?_) h hg
    show (.inr (.inl (some z)) : XV) = .inr (.inl (some (yev (yi r) (ycst z)))) ∧ ylng (yev (yi r) (ycst z))
    rw [ycst_ev]
    exact ⟨rfl, hz.1, hz.2⟩
  · cases h
def ygadd (p q : YL) : Option YL := some (yadd p 1 q)
def ygsub (p q : YL) : Option YL := some (yadd p (-1) q)
def ygmul (p q : YL) : Option YL := if q.2 = [] then some (yadd (ycst 0) q.1 p) else if p.2 = [] then some (yadd (ycst 0) p.1 q) else none
def ygno (_ _ : YL) : Option YL := none
def ygn1 (_ : YL) : Option YL := none
def ygt2 (_ _ : YL) : YE := ytop
def ygt1 (_ : YL) : YE := ytop
theorem ycst_of {r : Nat → Int} {q : YL} (h : q.2 = []) : yev r q = q.1 := by
  show q.1 + ysum r q.2 = q.1
  rw [h]
  show q.1 + 0 = q.1
  omega
theorem yo_iadd (h : yh_bin ygadd ygt2 Y = some outs) (hg : ∀ o ∈ outs, ygoodO f J Post KD ks ow n0 r0 o) : yone f J Post KD ks ow n0 r0 Y (fun lv st w => xh_bin xadd Y.1 lv st w 0 0) := yo_bin (fun r w p q _ _ _ => by
  obtain ⟨z, a1, a2, a3⟩ := xadd_ex (yev (yi r) p) (yev (yi r) q)
  refine ⟨z, a1, a2, fun x hx hr => ?_, fun h => by cases h⟩
  cases hx
  rw [yadd_ev, Int.one_mul] at hr ⊢
  exact a3 hr) h hg
theorem yo_isub (h : yh_bin ygsub ygt2 Y = some outs) (hg : ∀ o ∈ outs, ygoodO f J Post KD ks ow n0 r0 o) : yone f J Post KD ks ow n0 r0 Y (fun lv st w => xh_bin xsub Y.1 lv st w 0 0) := yo_bin (fun r w p q _ _ _ => by
  obtain ⟨z, a1, a2, a3⟩ := xsub_ex (yev (yi r) p) (yev (yi r) q)
  refine ⟨z, a1, a2, fun x hx hr => ?_, fun h => by cases h⟩
  cases hx
  have e : yev (yi r) (yadd p (-1) q) = yev (yi r) p - yev (yi r) q := by
    rw [yadd_ev]
    omega
  rw [e] at hr ⊢
  exact a3 hr) h hg
theorem yo_imul (h : yh_bin ygmul ygt2 Y = some outs) (hg : ∀ o ∈ outs, ygoodO f J Post KD ks ow n0 r0 o) : yone f J Post KD ks ow n0 r0 Y (fun lv st w => xh_bin (xe2 (fun x y => x * y)) Y.1 lv st w 0 0) := yo_bin (fun r w p q _ hp hq => by
  obtain ⟨z, a1, a2, a3⟩ := xmul_ex hp hq
  refine ⟨z, a1, a2, fun x hx hr => ?_, fun _ => ytop_in a2⟩
  unfold ygmul at hx
  split at hx
  · rename_i h0
    cases hx
    have e : yev (yi r) (yadd (ycst 0) q.1 p) = yev (yi r) p * yev (yi r) q := by
      rw [yadd_ev, ycst_ev, ycst_of h0, Int.mul_comm]
      omega
    rw [e] at hr ⊢
    exact a3 hr
  · split at hx
    · rename_i h0
      cases hx
      have e : yev (yi r) (yadd (ycst 0) p.1 q) = yev (yi r) p * yev (yi r) q := by
        rw [yadd_ev, ycst_ev, ycst_of h0]
        omega
      rw [e] at hr ⊢
      exact a3 hr
    · cases hx) h hg
/-- of exact ints exactly -/
def ygc (g : Int32 → Int32 → Int32) (p q : YL) : Option YL := if p.2 = [] ∧ q.2 = [] then some (ycst (g (Int32.ofInt p.1) (Int32.ofInt q.1)).toInt) else none
def ygc1 (g : Int32 → Int32) (p : YL) : Option YL := if p.2 = [] then some (ycst (g (Int32.ofInt p.1)).toInt) else none
theorem yo_ibin {g : Int32 → Int32 → Int32} (h : yh_bin (ygc g) ygt2 Y = some outs) (hg : ∀ o ∈ outs, ygoodO f J Post KD ks ow n0 r0 o) : yone f J Post KD ks ow n0 r0 Y (fun lv st w => xh_bin (xe2 g) Y.1 lv st w 0 0) := yo_bin (fun r w p q _ _ _ => by
  refine ⟨(g (Int32.ofInt (yev (yi r) p)) (Int32.ofInt (yev (yi r) q))).toInt, ?_, x_rng _, fun x hx _ => ?_, fun _ => ytop_in (x_rng _)⟩
  · unfold xe2
    rw [if_pos ⟨rfl, rfl⟩]
  · unfold ygc at hx
    split at hx
    · rename_i hc
      cases hx
      rw [ycst_ev, ycst_of hc.1, ycst_of hc.2]
    · cases hx) h hg
theorem yo_iun {g : Int32 → Int32} (h : yh_un (ygc1 g) ygt1 Y = some outs) (hg : ∀ o ∈ outs, ygoodO f J Post KD ks ow n0 r0 o) : yone f J Post KD ks ow n0 r0 Y (fun lv st w => xh_un (xe1 g) Y.1 lv st w 0 0) := yo_un (fun r w p _ _ => by
  refine ⟨(g (Int32.ofInt (yev (yi r) p))).toInt, ?_, x_rng _, fun x hx _ => ?_, fun _ => ytop_in (x_rng _)⟩
  · unfold xe1
    rw [if_pos rfl]
  · unfold ygc1 at hx
    split at hx
    · rename_i hc
      cases hx
      rw [ycst_ev, ycst_of hc]
    · cases hx) h hg
/-- Math's two and one: of their answers nothing is known -/
def yh_m2 (M : XM) (Y : YS) : Option (List YO) := match Y.2.2.1 with
  | .inl _ :: .inl _ :: s => if 1 ≤ xm_f M ∧ (s.map ycat).sum + 13 ≤ xm_o M then (match yfr (Y.1, Y.2.1, s, Y.2.2.2) ytop with
    | some (v, K) => some [.inl (Y.1 + 3, Y.2.1, v :: s, K)]
    | none => none) else none
  | _ => none
theorem yo_m2 {g : Int32 → Int32 → Int32} {M : XM} (h : yh_m2 M Y = some outs) (hg : ∀ o ∈ outs, ygoodO f J Post KD ks ow n0 r0 o) : yone f J Post KD ks ow n0 r0 Y (fun lv st w => xh_m2 g M Y.1 lv st w 0 0) := by
  unfold yh_m2 at h
  split at h
  · rename_i q p s hs
    split at h
    · rename_i hc
      split at h
      · rename_i v K hv
        cases h
        intro h0 r w lv st hr h1 h2 h3 h4
        rw [hs] at h2
        obtain ⟨x1, st1, e1, a1, x2, st2, e2, a2, a3⟩ := h2
        subst e1
        subst e2
        obtain ⟨rfl, _⟩ := a1
        obtain ⟨rfl, _⟩ := a2
        obtain ⟨z, b1, b2⟩ := xe2_ex g (yev (yi r) p) (yev (yi r) q)
        obtain ⟨r', c1, c2, c3, c4, c5, c6⟩ := yfr_ok (Y := (Y.1, Y.2.1, s, Y.2.2.2)) hv h1 a3 h3 (ytop_in b2)
        refine ⟨_, ?_, yuse (hg _ List.mem_cons_self) (Nat.le_trans h0 c2) (yext_trans hr c1 h0) rfl c3 ⟨_, _, rfl, c6, c4⟩ c5 h4⟩
        show xh_m2 g M Y.1 lv (.inl (yev (yi r) q, yev (yi r) q) :: .inl (yev (yi r) p, yev (yi r) p) :: st2) w 0 0 = _
        unfold xh_m2
        dsimp only
        rw [if_pos ⟨hc.1, by rw [← (ystin_len a3).2]; exact hc.2, Nat.zero_le _, Nat.zero_le _⟩, b1]
      · cases h
    · cases h
  · cases h
def yh_m1 (M : XM) (Y : YS) : Option (List YO) := match Y.2.2.1 with
  | .inl _ :: s => if 1 ≤ xm_f M ∧ (s.map ycat).sum + 13 ≤ xm_o M then (match yfr (Y.1, Y.2.1, s, Y.2.2.2) ytop with
    | some (v, K) => some [.inl (Y.1 + 3, Y.2.1, v :: s, K)]
    | none => none) else none
  | _ => none
theorem yo_m1 {g : Int32 → Int32} {M : XM} (h : yh_m1 M Y = some outs) (hg : ∀ o ∈ outs, ygoodO f J Post KD ks ow n0 r0 o) : yone f J Post KD ks ow n0 r0 Y (fun lv st w => xh_m1 g M Y.1 lv st w 0 0) := by
  unfold yh_m1 at h
  split at h
  · rename_i p s hs
    split at h
    · rename_i hc
      split at h
      · rename_i v K hv
        cases h
        intro h0 r w lv st hr h1 h2 h3 h4
        rw [hs] at h2
        obtain ⟨x2, st2, e2, a2, a3⟩ := h2
        subst e2
        obtain ⟨rfl, _⟩ := a2
        obtain ⟨z, b1, b2⟩ := xe1_ex g (yev (yi r) p)
        obtain ⟨r', c1, c2, c3, c4, c5, c6⟩ := yfr_ok (Y := (Y.1, Y.2.1, s, Y.2.2.2)) hv h1 a3 h3 (ytop_in b2)
        refine ⟨_, ?_, yuse (hg _ List.mem_cons_self) (Nat.le_trans h0 c2) (yext_trans hr c1 h0) rfl c3 ⟨_, _, rfl, c6, c4⟩ c5 h4⟩
        show xh_m1 g M Y.1 lv (.inl (yev (yi r) p, yev (yi r) p) :: st2) w 0 0 = _
        unfold xh_m1
        dsimp only
        rw [if_pos ⟨hc.1, by rw [← (ystin_len a3).2]; exact hc.2, Nat.zero_le _, Nat.zero_le _⟩, b1]
      · cases h
    · cases h
  · cases h
def yh_lneg (Y : YS) : Option (List YO) := match Y.2.2.1 with
  | .inr (.inl _) :: s => (match yfr (Y.1, Y.2.1, s, Y.2.2.2) ylany with
    | some (v, K) => some [.inl (Y.1 + 1, Y.2.1, v :: s, K)]
    | none => none)
  | _ => none
theorem yo_lneg (h : yh_lneg Y = some outs) (hg : ∀ o ∈ outs, ygoodO f J Post KD ks ow n0 r0 o) : yone f J Post KD ks ow n0 r0 Y (fun lv st w => xh_lneg Y.1 lv st w 0 0) := by
  unfold yh_lneg at h
  split at h
  · rename_i p s hs
    split at h
    · rename_i v K hv
      cases h
      intro h0 r w lv st hr h1 h2 h3 h4
      rw [hs] at h2
      obtain ⟨x2, st2, e2, a2, a3⟩ := h2
      subst e2
      obtain ⟨rfl, _⟩ := a2
      obtain ⟨r', c1, c2, c3, c4, c5, c6⟩ := yfr_ok (Y := (Y.1, Y.2.1, s, Y.2.2.2)) hv h1 a3 h3 (ylany_in (ylng_64 (-(Int64.ofInt (yev (yi r) p)))))
      exact ⟨_, rfl, yuse (hg _ List.mem_cons_self) (Nat.le_trans h0 c2) (yext_trans hr c1 h0) rfl c3 ⟨_, _, rfl, c6, c4⟩ c5 h4⟩
    · cases h
  · cases h
end YI
/-- the first contract that fits -/
def ycl (KD : Nat → Option YK) (pu : Nat) (M : XM) (No : Option XM) (na : Nat) (recv : Bool) (Y : YS) : List YC → Option (List YO)
  | [] => none
  | C :: Cs => match No with
    | some N => (match yh_call KD pu M N C na recv Y with
      | some o => some o
      | none => ycl KD pu M No na recv Y Cs)
    | none => none
theorem ycl_ok {KD : Nat → Option YK} {pu : Nat} {M : XM} {No : Option XM} {na : Nat} {recv : Bool} {Y : YS} {outs : List YO} : ∀ {Cs : List YC}, ycl KD pu M No na recv Y Cs = some outs → ∃ N C, No = some N ∧ C ∈ Cs ∧ yh_call KD pu M N C na recv Y = some outs
  | [], h => by cases h
  | C :: Cs, h => by
    unfold ycl at h
    split at h
    · rename_i N
      split at h
      · rename_i o ho
        cases h
        exact ⟨N, C, rfl, List.mem_cons_self, ho⟩
      · obtain ⟨N', C', a1, a2, a3⟩ := ycl_ok h
        exact ⟨N', C', a1, List.mem_cons_of_mem _ a2, a3⟩
    · cases h
def yxi (KD : Nat → Option YK) (pu : Nat) (CT : Nat → List YC) (MT : Nat → Option XM) (FT : Nat → Nat → Option FieldType) (exc : List (List XV)) (M : XM) (i : Instr) (a b : Nat) (z : Int) (Y : YS) : Option (List YO) := match i with
  | .iconst _ => yh_ci 1 z Y
  | .bipush _ => yh_ci 2 z Y
  | .sipush _ => yh_ci 3 z Y
  | .ldc _ => yh_ci 2 z Y
  | .ldc_w _ => yh_ci 3 z Y
  | .lconst _ => yh_cl 1 z Y
  | .ldc2_w _ => yh_cl 3 z Y
  | .aconst_null => yh_push 1 (.inr (.inr (2, 0))) Y
  | .iload_n j => yh_load 0 1 j.val Y
  | .iload j => yh_load 0 2 j Y
  | .lload_n j => yh_load 1 1 j.val Y
  | .lload j => yh_load 1 2 j Y
  | .aload_n j => yh_load 2 1 j.val Y
  | .aload j => yh_load 2 2 j Y
  | .istore_n j => yh_store 0 1 j.val (xm_l M) Y
  | .istore j => yh_store 0 2 j (xm_l M) Y
  | .lstore_n j => yh_store2 1 j.val (xm_l M) Y
  | .lstore j => yh_store2 2 j (xm_l M) Y
  | .astore_n j => yh_store 2 1 j.val (xm_l M) Y
  | .astore j => yh_store 2 2 j (xm_l M) Y
  | .iinc j _ => yh_iinc j (xm_l M) z Y
  | .iadd => yh_bin ygadd ygt2 Y
  | .isub => yh_bin ygsub ygt2 Y
  | .imul => yh_bin ygmul ygt2 Y
  | .iand => yh_bin (ygc (fun x y => x &&& y)) ygt2 Y
  | .ior => yh_bin (ygc (fun x y => x ||| y)) ygt2 Y
  | .ixor => yh_bin (ygc (fun x y => x ^^^ y)) ygt2 Y
  | .ishl => yh_bin (ygc (fun x y => x <<< (y &&& 31))) ygt2 Y
  | .ishr => yh_bin (ygc (fun x y => x >>> (y &&& 31))) ygt2 Y
  | .iushr => yh_bin (ygc (fun x y => (x.toUInt32 >>> (y.toUInt32 &&& Int32.toUInt32 31)).toInt32)) ygt2 Y
  | .idiv => yh_div false Y
  | .irem => yh_div true Y
  | .ineg => yh_un (ygc1 (fun x => -x)) ygt1 Y
  | .i2b => yh_un (ygc1 (fun x => x.toInt8.toInt32)) ygt1 Y
  | .lneg => yh_lneg Y
  | .ladd => yh_ladd (fun x y => x + y) 1 Y
  | .lsub => yh_ladd (fun x y => x - y) (-1) Y
  | .lmul => yh_lbin (fun x y => x * y) Y
  | .land => yh_lbin (fun x y => x &&& y) Y
  | .lor => yh_lor Y
  | .ldiv => yh_ldiv Y
  | .lrem => yh_ldiv Y
  | .lxor => yh_lbin (fun x y => x ^^^ y) Y
  | .lshl => yh_lshl Y
  | .lshr => yh_lsh (fun x y => x >>> (y.toInt64 &&& 63)) Y
  | .lushr => yh_lsh (fun x y => (x.toUInt64 >>> (y.toInt64.toUInt64 &&& Int64.toUInt64 63)).toInt64) Y
  | .i2l => yh_i2l Y
  | .l2i => yh_l2i Y
  | .lcmp => yh_lcmp Y
  | .dup => yh_dup Y
  | .dup2 => yh_dup2 Y
  | .ifCond c _ => yh_if c a Y
  | .if_icmp c _ => yh_icmp c a Y
  | .ifnull _ => yh_null false a Y
  | .ifnonnull _ => yh_null true a Y
  | .goto _ => yh_goto a Y
  | .tableswitch d lo hi offs => yh_table d lo hi offs Y
  | .iaload => yh_ald KD exc 0 0 Y
  | .laload => yh_ald KD exc 1 1 Y
  | .baload => yh_ald KD exc 2 0 Y
  | .aaload => yh_ald KD exc 3 2 Y
  | .iastore => yh_ast KD pu 0 0 Y
  | .lastore => yh_ast KD pu 1 1 Y
  | .bastore => yh_zst KD pu Y
  | .arraylength => yh_alen KD Y
  | .getfield _ => yh_get KD a b Y
  | .putfield _ => yh_put KD pu a b (FT a b) Y
  | .getstatic _ => yh_push 3 (.inr (.inr (3, a))) Y
  | .invokevirtual _ => ycl KD pu M (MT a) b true Y (CT a)
  | .invokestatic _ => if a < 7000 then ycl KD pu M (MT a) b false Y (CT a) else if a = 7000 then yh_m2 M Y else if a = 7001 then yh_m2 M Y else if a = 7002 then yh_m1 M Y else if a = 8888 then yh_cpy KD pu M Y else none
  | .invokespecial _ => if a = 9999 then none else ycl KD pu M (MT a) b true Y (CT a)
  | .ireturn => yh_ret 0 (xm_r M) Y
  | .lreturn => yh_ret 1 none Y
  | .areturn => yh_ret 2 none Y
  | .return_ => yh_retv Y
  | _ => none
section YI
variable {Post : Option XV × XW × Nat × Nat → Prop} {KD : Nat → Option YK} {ks : List Nat} {ow : XW → Prop} {n0 : Nat} {r0 : YR} {Y : YS} {outs : List YO} {l : Launch} {D : va_G} {cl : List vw_C} {tys : List (ClassId × FieldType)} {tA : Nat → ClassId} {ex : List Nat} {exc : List (List XV)} {SV : List (String × String × String × Nat)} {NW : List (String × Nat × MethodName × String)} {NF : List (String × Nat × String × String × String × String)} {Ts : List Cond} {cf0 : XF} {MT : Nat → Option XM} {FT : Nat → Nat → Option FieldType} {FD : Nat → Option (List XV)} {TY : Nat → Option FieldType} {TC : Nat → Option Nat} {M : XM} {CT : Nat → List YC}
set_option maxHeartbeats 4000000 in
theorem yxi_ok {pu : Nat} {exs : List (List XV)} (hex : ∀ (j : Nat) (es : List XV), exs[j]? = some es → exc[j]? = some es) (hpu : ymd pu ks ow) (hCT : ∀ (j : Nat) (N : XM) (C : YC), MT j = some N → C ∈ CT j → ycont l D cl tys tA ex exc SV NW NF Ts KD N C) {i : Instr} {a b : Nat} {z : Int} (hf : xfetch (xm_t M) Y.1 = some (i, a, b, z)) (h : yxi KD pu CT MT FT exs M i a b z Y = some outs) (hg : ∀ o ∈ outs, ygoodO (xstep cf0 MT FT FD TY TC exc M) (XJ l D cl tys tA ex exc SV NW NF Ts MT FT FD TY TC M) Post KD ks ow n0 r0 o) : ygood (xstep cf0 MT FT FD TY TC exc M) (XJ l D cl tys tA ex exc SV NW NF Ts MT FT FD TY TC M) Post KD ks ow n0 r0 Y := by
  cases i with
  | iconst _ => exact ygood_of hf (yo_ci h hg)
  | bipush _ => exact ygood_of hf (yo_ci h hg)
  | sipush _ => exact ygood_of hf (yo_ci h hg)
  | ldc _ => exact ygood_of hf (yo_ci h hg)
  | ldc_w _ => exact ygood_of hf (yo_ci h hg)
  | lconst _ => exact ygood_of hf (yo_cl h hg)
  | ldc2_w _ => exact ygood_of hf (yo_cl h hg)
  | aconst_null => exact ygood_of hf (yo_push (v := .inr (.inr (2, 0))) (x := .inr (.inr (0, 0))) (fun _ => (rfl : (.inr (.inr (0, 0)) : XV) = .inr (.inr (0, 0)))) h hg)
  | iload_n j => exact ygood_of hf (yo_load h hg)
  | iload j => exact ygood_of hf (yo_load h hg)
  | lload_n j => exact ygood_of hf (yo_load h hg)
  | lload j => exact ygood_of hf (yo_load h hg)
  | aload_n j => exact ygood_of hf (yo_load h hg)
  | aload j => exact ygood_of hf (yo_load h hg)
  | istore_n j => exact ygood_of hf (yo_store h hg)
  | istore j => exact ygood_of hf (yo_store h hg)
  | lstore_n j => exact ygood_of hf (yo_store2 h hg)
  | lstore j => exact ygood_of hf (yo_store2 h hg)
  | astore_n j => exact ygood_of hf (yo_store h hg)
  | astore j => exact ygood_of hf (yo_store h hg)
  | iinc j _ => exact ygood_of hf (yo_iinc h hg)
  | iadd => exact ygood_of hf (yo_iadd h hg)
  | isub => exact ygood_of hf (yo_isub h hg)
  | imul => exact ygood_of hf (yo_imul h hg)
  | iand => exact ygood_of hf (yo_ibin h hg)
  | ior => exact ygood_of hf (yo_ibin h hg)
  | ixor => exact ygood_of hf (yo_ibin h hg)
  | ishl => exact ygood_of hf (yo_ibin h hg)
  | ishr => exact ygood_of hf (yo_ibin h hg)
  | iushr => exact ygood_of hf (yo_ibin h hg)
  | idiv => exact ygood_of hf (yo_div (rem := false) rfl h hg)
  | irem => exact ygood_of hf (yo_div (rem := true) rfl h hg)
  | ineg => exact ygood_of hf (yo_iun h hg)
  | i2b => exact ygood_of hf (yo_iun h hg)
  | lneg => exact ygood_of hf (yo_lneg h hg)
  | ladd => exact ygood_of hf (yo_ladd (fun a b ha hb h => y_add64 ha hb h) h hg)
  | lsub => exact ygood_of hf (yo_ladd (fun a b ha hb h => y_sub64 ha hb h) h hg)
  | lmul => exact ygood_of hf (yo_lbin h hg)
  | land => exact ygood_of hf (yo_lbin h hg)
  | lor => exact ygood_of hf (yo_lor h hg)
  | ldiv => exact ygood_of hf (yo_ldiv h hg)
  | lrem => exact ygood_of hf (yo_ldiv h hg)
  | lxor => exact ygood_of hf (yo_lbin h hg)
  | lshl => exact ygood_of hf (yo_lshl h hg)
  | lshr => exact ygood_of hf (yo_lsh h hg)
  | lushr => exact ygood_of hf (yo_lsh h hg)
  | i2l => exact ygood_of hf (yo_i2l h hg)
  | l2i => exact ygood_of hf (yo_l2i h hg)
  | lcmp => exact ygood_of hf (yo_lcmp h hg)
  | dup => exact ygood_of hf (yo_dup h hg)
  | dup2 => exact ygood_of hf (yo_dup2 h hg)
  | ifCond c _ => exact ygood_of hf (yo_if h hg)
  | if_icmp c _ => exact ygood_of hf (yo_icmp h hg)
  | ifnull _ => exact ygood_of hf (yo_null h hg)
  | ifnonnull _ => exact ygood_of hf (yo_null h hg)
  | goto _ => exact ygood_of hf (yo_goto h hg)
  | tableswitch d lo hi offs => exact ygood_of hf (yo_table h hg)
  | iaload => exact ygood_of hf (yo_ald hex h hg)
  | laload => exact ygood_of hf (yo_ald hex h hg)
  | baload => exact ygood_of hf (yo_ald hex h hg)
  | aaload => exact ygood_of hf (yo_ald hex h hg)
  | iastore => exact ygood_of hf (yo_ast hpu h hg)
  | lastore => exact ygood_of hf (yo_ast hpu h hg)
  | bastore => exact ygood_of hf (yo_zst hpu h hg)
  | arraylength => exact ygood_of hf (yo_alen h hg)
  | getfield _ => exact ygood_of hf (yo_get h hg)
  | putfield _ => exact ygood_of hf (yo_put hpu h hg)
  | getstatic _ => exact ygood_of hf (yo_push (v := .inr (.inr (3, a))) (x := .inr (.inr (2, a))) (fun _ => (rfl : (.inr (.inr (2, a)) : XV) = .inr (.inr (2, a)))) h hg)
  | invokevirtual _ =>
    obtain ⟨N, C, a1, a2, a3⟩ := ycl_ok h
    exact yo_call hf (fun _ _ _ _ => rfl) a1 (hCT a N C a1 a2) hpu a3 hg
  | invokestatic _ =>
    have h : (if a < 7000 then ycl KD pu M (MT a) b false Y (CT a) else if a = 7000 then yh_m2 M Y else if a = 7001 then yh_m2 M Y else if a = 7002 then yh_m1 M Y else if a = 8888 then yh_cpy KD pu M Y else none) = some outs := h
    by_cases c1 : a < 7000
    · rw [if_pos c1] at h
      obtain ⟨N, C, a1, a2, a3⟩ := ycl_ok h
      exact yo_call hf (fun cf lv st w => by simp only [xins]; rw [if_pos c1]) a1 (hCT a N C a1 a2) hpu a3 hg
    · rw [if_neg c1] at h
      by_cases c2 : a = 7000
      · rw [if_pos c2] at h
        subst c2
        exact ygood_of hf (yo_m2 h hg)
      · rw [if_neg c2] at h
        by_cases c3 : a = 7001
        · rw [if_pos c3] at h
          subst c3
          exact ygood_of hf (yo_m2 h hg)
        · rw [if_neg c3] at h
          by_cases c4 : a = 7002
          · rw [if_pos c4] at h
            subst c4
            exact ygood_of hf (yo_m1 h hg)
          · rw [if_neg c4] at h
            by_cases c5 : a = 8888
            · rw [if_pos c5] at h
              subst c5
              exact ygood_of hf (yo_cpy hpu h hg)
            · rw [if_neg c5] at h
              cases h
  | invokespecial _ =>
    have h : (if a = 9999 then none else ycl KD pu M (MT a) b true Y (CT a)) = some outs := h
    by_cases c1 : a = 9999
    · rw [if_pos c1] at h
      cases h
    · rw [if_neg c1] at h
      obtain ⟨N, C, a1, a2, a3⟩ := ycl_ok h
      exact yo_call hf (fun cf lv st w => by simp only [xins]; rw [if_neg c1]) a1 (hCT a N C a1 a2) hpu a3 hg
  | ireturn => exact ygood_of hf (yo_ret h hg)
  | lreturn => exact ygood_of hf (yo_ret h hg)
  | areturn => exact ygood_of hf (yo_ret h hg)
  | return_ => exact ygood_of hf (yo_retv h hg)
  | _ => exact nomatch (show (none : Option (List YO)) = some outs from h)
end YI
