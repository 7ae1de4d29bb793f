/-! ===== one instruction, a run, a method ===== -/
def xlen : Instr → Nat
  | .bipush _ => 2
  | .sipush _ => 3
  | .ldc _ => 2
  | .ldc_w _ => 3
  | .ldc2_w _ => 3
  | .iload _ => 2
  | .lload _ => 2
  | .aload _ => 2
  | .istore _ => 2
  | .lstore _ => 2
  | .astore _ => 2
  | .iinc _ _ => 3
  | .ifCond _ _ => 3
  | .if_icmp _ _ => 3
  | .ifnull _ => 3
  | .ifnonnull _ => 3
  | .goto _ => 3
  | .newarray _ => 2
  | .anewarray _ => 3
  | .new _ => 3
  | .getfield _ => 3
  | .putfield _ => 3
  | .getstatic _ => 3
  | .invokevirtual _ => 3
  | .invokestatic _ => 3
  | .invokespecial _ => 3
  | _ => 1
def xdec (cc : ByteArray) (pc : Nat) : Instr → Prop
  | .tableswitch d lo hi o => ∃ n, decode cc pc = .ok (.tableswitch d lo hi o, n)
  | i => decode cc pc = .ok (i, xlen i)
/-- the words of one of Math's three -/
def xmw (Ts : List Cond) (own : String) (j : Nat) (y : MethodName) (cc : ByteArray) (n : Nat) : Prop := Cond.methodLink own j y ∈ Ts ∧ Cond.static y ∈ Ts ∧ Cond.initialized "java/lang/Math" ∈ Ts ∧ Cond.code y cc n (some .int) ∈ Ts
/-- what the tables say of an instruction -/
def xaux (cl : List vw_C) (Ts : List Cond) (MT : Nat → Option XM) (FT : Nat → Nat → Option FieldType) (FD : Nat → Option (List XV)) (TY : Nat → Option FieldType) (SV : List (String × String × String × Nat)) (NW : List (String × Nat × MethodName × String)) (NF : List (String × Nat × String × String × String × String)) (M : XM) (pc a b : Nat) (z : Int) : Instr → Prop
  | .iconst v => (Int32.ofInt v).toInt = z
  | .bipush v => ((Int8.ofInt v).toInt32).toInt = z
  | .sipush v => ((Int16.ofInt v).toInt32).toInt = z
  | .ldc j => ∃ v : Int32, Cond.constant (xm_y M).cls j v ∈ Ts ∧ v.toInt = z
  | .ldc_w j => ∃ v : Int32, Cond.constant (xm_y M).cls j v ∈ Ts ∧ v.toInt = z
  | .lconst v => (Int64.ofNat (v : Nat)).toInt = z
  | .ldc2_w j => ∃ v : Int64, Cond.constantLong (xm_y M).cls j v ∈ Ts ∧ v.toInt = z
  | .iinc _ g => (Int32.ofInt g).toInt = z
  | .ifCond _ o => (pc : Int) + o = (a : Int)
  | .if_icmp _ o => (pc : Int) + o = (a : Int)
  | .ifnull o => (pc : Int) + o = (a : Int)
  | .ifnonnull o => (pc : Int) + o = (a : Int)
  | .goto o => (pc : Int) + o = (a : Int)
  | .newarray t => ((t = .int ∧ a = 0) ∨ (t = .long ∧ a = 1) ∨ (t = .boolean ∧ a = 2)) ∧ TY a = some (newarray.typeOf t) ∧ Cond.arrayClass (newarray.typeOf t) ∈ Ts
  | .anewarray j => 3 ≤ a ∧ a < 7 ∧ ∃ C, TY a = some (.object C) ∧ Cond.classLink (xm_y M).cls j C ∈ Ts ∧ C ∈ xAO
  | .new j => ∃ (C : String) (T : u_T) (N : Nat) (ty : Nat → FieldType) (fs : List XV) (fv : List Value), xclo cl Ts a C T N ty ∧ FD a = some fs ∧ fs.length = N ∧ (∀ as ex : List Nat, xl_in as ex fs fv) ∧ (∀ j, j < N → defaultValue (ty j) = vp_V fv j) ∧ Cond.classLink (xm_y M).cls j C ∈ Ts ∧ Cond.instantiable C N ∈ Ts ∧ Cond.initialized C ∈ Ts
  | .getfield j => ∃ (C : String) (T : u_T) (N : Nat) (ty : Nat → FieldType), xclo cl Ts a C T N ty ∧ b < N ∧ Cond.fieldLink (xm_y M).cls j (T b).1 (T b).2.1 (T b).2.2.1 ∈ Ts
  | .putfield j => ∃ (C : String) (T : u_T) (N : Nat) (ty : Nat → FieldType), xclo cl Ts a C T N ty ∧ b < N ∧ Cond.fieldLink (xm_y M).cls j (T b).1 (T b).2.1 (T b).2.2.1 ∈ Ts ∧ FT a b = some (ty b) ∧ ((T b).2.2.2 = false ∨ ((T b).2.2.2 = true ∧ (xm_y M).name = "<init>" ∧ (T b).1 = (xm_y M).cls))
  | .getstatic j => ∃ C n d, (C, n, d, a) ∈ SV ∧ (Cond.fieldLink (xm_y M).cls j C n d ∈ Ts ∨ ∃ h, ((xm_y M).cls, j, C, n, d, h) ∈ NF)
  | .invokevirtual j => ∃ (N : XM) (C : String), MT a = some N ∧ Cond.methodLink (xm_y M).cls j (xm_y N) ∈ Ts ∧ Cond.instanceMethod (xm_y N) ∈ Ts ∧ Cond.selects C (xm_y N) (xm_y N) ∈ Ts ∧ Cond.initialized C ∈ Ts ∧ Cond.code (xm_y N) (xm_c N) (xm_l N) (xm_r N) ∈ Ts ∧ ((xm_y N).cls = C ∧ (xm_y N).cls ≠ "java/lang/invoke/MethodHandle" ∧ (xm_y N).cls ≠ "java/lang/invoke/VarHandle" ∧ (parseMethodDescriptor (xm_y N).desc).map (fun d => d.parameters.length) = some (b - 1)) ∧ ∃ o : vw_C, cl[xm_i N]? = some o ∧ o.1 = C
  | .invokestatic j => (a = 7000 ∧ xmw Ts (xm_y M).cls j Lib.Math.max.name Lib.Math.max.code 2) ∨ (a = 7001 ∧ xmw Ts (xm_y M).cls j Lib.Math.min.name Lib.Math.min.code 2) ∨ (a = 7002 ∧ xmw Ts (xm_y M).cls j Lib.Math.abs.name Lib.Math.abs.code 1) ∨ (a = 8888 ∧ Cond.methodLink (xm_y M).cls j arraycopyName ∈ Ts ∧ Cond.native arraycopyName ∈ Ts ∧ Cond.static arraycopyName ∈ Ts ∧ Cond.initialized "java/lang/System" ∈ Ts) ∨ (a < 7000 ∧ ∃ N : XM, MT a = some N ∧ (Cond.methodLink (xm_y M).cls j (xm_y N) ∈ Ts ∨ ∃ h, ((xm_y M).cls, j, xm_y N, h) ∈ NW) ∧ Cond.static (xm_y N) ∈ Ts ∧ Cond.initialized (xm_y N).cls ∈ Ts ∧ Cond.code (xm_y N) (xm_c N) (xm_l N) (xm_r N) ∈ Ts ∧ ((xm_y N).cls ≠ "java/lang/invoke/MethodHandle" ∧ (xm_y N).cls ≠ "java/lang/invoke/VarHandle" ∧ (parseMethodDescriptor (xm_y N).desc).map (fun d => d.parameters.length) = some b))
  | .invokespecial j => (a = 9999 ∧ Cond.methodLink (xm_y M).cls j Lib.objectInit ∈ Ts ∧ Cond.instanceMethod Lib.objectInit ∈ Ts ∧ Cond.code Lib.objectInit ⟨#[0xb1]⟩ 1 none ∈ Ts) ∨ (a ≠ 9999 ∧ ∃ N : XM, MT a = some N ∧ (Cond.methodLink (xm_y M).cls j (xm_y N) ∈ Ts ∨ ∃ h, ((xm_y M).cls, j, xm_y N, h) ∈ NW) ∧ Cond.instanceMethod (xm_y N) ∈ Ts ∧ Cond.initialized (xm_y N).cls ∈ Ts ∧ Cond.code (xm_y N) (xm_c N) (xm_l N) (xm_r N) ∈ Ts ∧ ((xm_y N).cls ≠ "java/lang/invoke/MethodHandle" ∧ (xm_y N).cls ≠ "java/lang/invoke/VarHandle" ∧ (parseMethodDescriptor (xm_y N).desc).map (fun d => d.parameters.length) = some (b - 1)) ∧ (xm_y N).name = "<init>" ∧ xm_r N = none)
  | .ireturn => xrt .ireturn (xm_r M)
  | .lreturn => xrt .lreturn (xm_r M)
  | .areturn => xrt .areturn (xm_r M)
  | .return_ => xrt .return_ (xm_r M)
  | _ => True
theorem x_sl0 (k : Int64) : (0 : Int64) <<< k = 0 := by
  apply Int64.toBitVec_inj.mp
  simp
theorem x_sr0 (k : Int64) : (0 : Int64) >>> k = 0 := by
  apply Int64.toBitVec_inj.mp
  simp
theorem x_ur0 (k : UInt64) : ((0 : Int64).toUInt64 >>> k).toInt64 = 0 := by
  have h : (0 : Int64).toUInt64 = 0 := rfl
  rw [h]
  apply Int64.toBitVec_inj.mp
  simp
theorem xrecv_in {w : XW} {ci : Nat} {as ex : List Nat} {xs : List XV} {vals : List Value} (h : xrecv w ci xs = true) (hv : xl_in as ex xs vals) : ∃ (b : Nat) (As : List Value) (q : Nat) (fs : List XV), vals = .ref b :: As ∧ as[q]? = some b ∧ w[q]? = some (.inl (ci, fs)) := by
  match xs, h, hv with
  | .inr (.inr q) :: xs, h, hv =>
    obtain ⟨v, As, rfl, h1, _⟩ := hv
    have h : (q.1 == 1 && (match w[q.2]? with
      | some (.inl x) => x.1 == ci
      | _ => false)) = true := h
    rw [Bool.and_eq_true] at h
    have hq : q.1 = 1 := by simpa using h.1
    have h2 := h.2
    rcases h1 with ⟨h0, _⟩ | ⟨b, rfl, ⟨_, hb⟩ | ⟨h0, _⟩⟩
    · omega
    · cases hw : w[q.2]? with
      | none => rw [hw] at h2; cases h2
      | some o =>
        rw [hw] at h2
        match o, h2, hw with
        | .inl (c0, fs), h2, hw =>
          have h2 : c0 = ci := by simpa using h2
          subst h2
          exact ⟨b, As, q.2, fs, rfl, hb, hw⟩
        | .inr _, h2, _ => cases h2
    · omega
section XI
variable {p : Program} {l : Launch} {e : Env} {R : Room} {s : State} {m : MethodId} {args : Array Value} {below : List Frame} {meth : Method} {c : Code} {Q : State → Prop} {D : va_G} {cl : List vw_C} {tys : List (ClassId × FieldType)} {tA : Nat → ClassId} {A : Nat → Prop} {as0 ex : List Nat} {exc : List (List XV)} {pc : Nat} {lv : XL} {st : List XV} {w : XW} {k n : Nat} {r : XR} {Ts : List Cond} {SV : List (String × String × String × Nat)} {NW : List (String × Nat × MethodName × String)} {NF : List (String × Nat × String × String × String × String)} {cf : XF} {MT : Nat → Option XM} {FT : Nat → Nat → Option FieldType} {FD : Nat → Option (List XV)} {TY : Nat → Option FieldType} {TC : Nat → Option Nat} {M : XM} {i : Instr} {a b : Nat} {z : Int}
set_option maxHeartbeats 4000000 in
theorem xins_ok (hx : p.tables.exec = Jvm.exec) (hb : c.code = xm_c M) (hml : c.maxLocals = xm_l M) (hown : s.vm.findClass (xm_y M).cls = some m.cls) (hname : (xm_y M).name = "<init>" → meth.name = "<init>") (hts : ∀ w ∈ Ts, w.before args s = true) (hG : ∀ w ∈ Ts, (w.onTables && w.keeps) = true ∨ ∃ ty, w = .arrayClass ty) (hE : XEnv D cl tys ex exc SV NW NF A s) (hA : ∀ q, s.heap.size ≤ q → A q) (hRf : R.frames = xm_f M) (hRo : R.locals = xm_o M) (hRk : R.cells = xm_k M) (hRn : R.slots = xm_n M) (hT : xty tys tA) (hTY : ∀ t C, 3 ≤ t → t < 7 → TY t = some (.object C) → tys[t]? = some (tA t, .object C)) (hTC : ∀ t b, TC t = some b → 3 ≤ t ∧ t < 7 ∧ ∃ o : vw_C, cl[b]? = some o ∧ tys[t]? = some (tA t, .object o.1))
    (hcf : ∀ (j : Nat) (N : XM) (as : List XV) (w : XW) (ro : Option XV) (w' : XW), MT j = some N → cf j as w = some (ro, w') → XMet l D cl tys tA ex exc SV NW NF Ts N as w ro w')
    (od : xdec (xm_c M) pc i) (oa : xaux cl Ts MT FT FD TY SV NW NF M pc a b z i) (h : xins cf MT FT FD TY TC exc M i a b z pc lv st w k n = some r) (hr : XRs p l e R s m args below meth c Q (xm_c M) (xm_l M) D cl tA A as0 ex (xm_r M) r) : XSat p l e R s m args below meth c Q (xm_l M) D cl tA A as0 ex (pc, lv, st, w, k, n) := by
  have hK := hE.1
  have hX := hE.2.1
  have hGI : ∀ N : XM, Cond.code (xm_y N) (xm_c N) (xm_l N) (xm_r N) ∈ Ts → GoodIn Ts (xws Ts N) := fun N hc w hw => by
    rcases List.mem_cons.mp hw with rfl | hw
    · exact ⟨hc, hG _ hc⟩
    · exact ⟨hw, hG _ hw⟩
  have one : ∀ (v : Int32) (z : Int), v.toInt = z → ∀ as : List Nat, xv_in as ex (xi z) (.int v) := fun v z e0 as => ⟨v, rfl, by rw [e0]; exact Int.le_refl _, by rw [e0]; exact Int.le_refl _⟩
  have oneL : ∀ (v : Int64) (z : Int), v.toInt = z → ∀ as : List Nat, xv_in as ex (.inr (.inl (some z))) (.long v) := fun v z e0 as => ⟨v, rfl, fun y hy => by cases hy; exact e0⟩
  cases i with
  | iconst v => exact xo_push (one _ _ oa) h hr (fun H locs ls vs _ kk => lv_iconst hx hb od rfl kk)
  | bipush v => exact xo_push (one _ _ oa) h hr (fun H locs ls vs _ kk => lv_bipush hx hb od rfl kk)
  | sipush v => exact xo_push (one _ _ oa) h hr (fun H locs ls vs _ kk => lv_sipush hx hb od rfl kk)
  | ldc j =>
    obtain ⟨v, hv, hz⟩ := oa
    exact xo_push (one _ _ hz) h hr (fun H locs ls vs _ kk => lv_ldc hx hb hown (hts _ hv) od kk)
  | ldc_w j =>
    obtain ⟨v, hv, hz⟩ := oa
    exact xo_push (one _ _ hz) h hr (fun H locs ls vs _ kk => lv_ldcw hx hb hown (hts _ hv) od kk)
  | lconst v => exact xo_push (oneL _ _ oa) h hr (fun H locs ls vs _ kk => lv_lconst hx hb od rfl kk)
  | ldc2_w j =>
    obtain ⟨v, hv, hz⟩ := oa
    exact xo_push (oneL _ _ hz) h hr (fun H locs ls vs _ kk => lv_ldc2 hx hb hown (hts _ hv) od kk)
  | aconst_null => exact xo_push (v := .inr (.inr (0, 0))) (val := .null) (fun _ => Or.inl ⟨rfl, rfl⟩) h hr (fun H locs ls vs _ kk => lv_null hx hb od kk)
  | iload_n j => exact xo_load h hr (fun v H locs ls vs hk hl kk => by obtain ⟨x, rfl⟩ := hk; exact lv_iload_n hx hb od rfl hl kk)
  | iload j => exact xo_load h hr (fun v H locs ls vs hk hl kk => by obtain ⟨x, rfl⟩ := hk; exact lv_iload hx hb od hl kk)
  | lload_n j => exact xo_load h hr (fun v H locs ls vs hk hl kk => by obtain ⟨x, rfl⟩ := hk; exact lv_lload_n hx hb od rfl hl kk)
  | lload j => exact xo_load h hr (fun v H locs ls vs hk hl kk => by obtain ⟨x, rfl⟩ := hk; exact lv_lload hx hb od hl kk)
  | aload_n j =>
    exact xo_load h hr (fun v H locs ls vs hk hl kk => by
      rcases hk with rfl | ⟨x, rfl⟩
      · exact lv_aload_nN hx hb od rfl hl kk
      · exact lv_aload_n hx hb od rfl hl kk)
  | aload j =>
    exact xo_load h hr (fun v H locs ls vs hk hl kk => by
      rcases hk with rfl | ⟨x, rfl⟩
      · exact lv_aloadN hx hb od hl kk
      · exact lv_aload hx hb od hl kk)
  | istore_n j => exact xo_store h hr (fun v H locs ls vs lw hk hl hj kk => by obtain ⟨x, rfl⟩ := hk; exact lv_istore_n hx hb od rfl hl hj rfl kk)
  | istore j => exact xo_store h hr (fun v H locs ls vs lw hk hl hj kk => by obtain ⟨x, rfl⟩ := hk; exact lv_istore hx hb od hl hj rfl kk)
  | lstore_n j => exact xo_store2 h hr (fun v H locs ls vs lw hk hl hj kk => by obtain ⟨x, rfl⟩ := hk; exact lv_lstore_n hx hb od rfl hl hj rfl kk)
  | lstore j => exact xo_store2 h hr (fun v H locs ls vs lw hk hl hj kk => by obtain ⟨x, rfl⟩ := hk; exact lv_lstore hx hb od hl hj rfl kk)
  | astore_n j =>
    exact xo_store h hr (fun v H locs ls vs lw hk hl hj kk => by
      rcases hk with rfl | ⟨x, rfl⟩
      · exact lv_astore_nN hx hb od rfl hl hj rfl kk
      · exact lv_astore_n hx hb od rfl hl hj rfl kk)
  | astore j =>
    exact xo_store h hr (fun v H locs ls vs lw hk hl hj kk => by
      rcases hk with rfl | ⟨x, rfl⟩
      · exact lv_astoreN hx hb od hl hj rfl kk
      · exact lv_astore hx hb od hl hj rfl kk)
  | iinc j g => exact xo_iinc hx hb od oa h hr
  | iadd => exact xo_bin xadd_in h hr (fun x y H locs ls vs kk => lv_iadd hx hb od kk)
  | isub => exact xo_bin xsub_in h hr (fun x y H locs ls vs kk => lv_isub hx hb od kk)
  | imul => exact xo_bin (xe2_in _) h hr (fun x y H locs ls vs kk => lv_imul hx hb od kk)
  | iand => exact xo_bin (xe2_in _) h hr (fun x y H locs ls vs kk => lv_iand hx hb od kk)
  | ior => exact xo_bin (xe2_in _) h hr (fun x y H locs ls vs kk => lv_ior hx hb od kk)
  | ixor => exact xo_bin (xe2_in _) h hr (fun x y H locs ls vs kk => lv_ixor hx hb od kk)
  | ishl => exact xo_bin (xe2_in _) h hr (fun x y H locs ls vs kk => lv_ishl hx hb od kk)
  | ishr => exact xo_bin (xe2_in _) h hr (fun x y H locs ls vs kk => lv_ishr hx hb od kk)
  | iushr => exact xo_bin (xe2_in _) h hr (fun x y H locs ls vs kk => lv_iushr hx hb od rfl kk)
  | idiv => exact xo_div (xe2_in _) h hr (fun x y H locs ls vs hy kk => lv_idiv hx hb od hy kk)
  | irem => exact xo_div (xe2_in _) h hr (fun x y H locs ls vs hy kk => lv_irem hx hb od hy kk)
  | ineg => exact xo_un h hr (fun x H locs ls vs kk => lv_ineg hx hb od kk)
  | i2b => exact xo_un h hr (fun x H locs ls vs kk => lv_i2b hx hb od rfl kk)
  | lneg => exact xo_lneg h hr (fun x H locs ls vs kk => lv_lneg hx hb od kk)
  | ladd => exact xo_lbin h hr (fun x y H locs ls vs kk => lv_ladd hx hb od kk)
  | lsub => exact xo_lbin h hr (fun x y H locs ls vs kk => lv_lsub hx hb od kk)
  | lmul => exact xo_lbin h hr (fun x y H locs ls vs kk => lv_lmul hx hb od kk)
  | ldiv => exact xo_ldiv h hr (fun x y H locs ls vs hy kk => lv_ldiv hx hb od hy kk)
  | lrem => exact xo_ldiv h hr (fun x y H locs ls vs hy kk => lv_lrem hx hb od hy kk)
  | land => exact xo_lbin h hr (fun x y H locs ls vs kk => lv_land hx hb od kk)
  | lor => exact xo_lbin h hr (fun x y H locs ls vs kk => lv_lor hx hb od kk)
  | lxor => exact xo_lbin h hr (fun x y H locs ls vs kk => lv_lxor hx hb od kk)
  | lshl => exact xo_lsh (g := fun x y => x <<< (y.toInt64 &&& 63)) (fun _ => x_sl0 _) h hr (fun x y H locs ls vs kk => lv_lshl hx hb od rfl kk)
  | lshr => exact xo_lsh (g := fun x y => x >>> (y.toInt64 &&& 63)) (fun _ => x_sr0 _) h hr (fun x y H locs ls vs kk => lv_lshr hx hb od rfl kk)
  | lushr => exact xo_lsh (g := fun x y => (x.toUInt64 >>> (y.toInt64.toUInt64 &&& Int64.toUInt64 63)).toInt64) (fun _ => x_ur0 _) h hr (fun x y H locs ls vs kk => lv_lushr hx hb od rfl kk)
  | i2l => exact xo_i2l h hr (fun x H locs ls vs kk => lv_i2l hx hb od rfl kk)
  | l2i => exact xo_l2i h hr (fun x H locs ls vs kk => lv_l2i hx hb od rfl kk)
  | lcmp => exact xo_lcmp h hr (fun x y H locs ls vs kk => W.lcmp hx hb od kk)
  | pop => exact xo_pop h hr (fun v H locs ls vs hv kk => lv_pop hx hb od hv kk)
  | pop2 => exact xo_pop h hr (fun v H locs ls vs hv kk => lv_pop2_2 hx hb od hv kk)
  | dup => exact xo_dup h hr (fun v H locs ls vs hv kk => lv_dup hx hb od hv kk)
  | dup2 => exact xo_dup2 hx hb od h hr
  | ifCond q o => exact xo_if hx hb od oa h hr
  | if_icmp q o => exact xo_icmp hx hb od oa h hr
  | ifnull o => exact xo_ifnull hx hb od oa h hr
  | ifnonnull o => exact xo_ifnonnull hx hb od oa h hr
  | goto o =>
    cases h
    intro H locs ls vs lw ws hat
    exact lv_goto hx hb od oa (hr H locs ls vs lw ws hat)
  | tableswitch d lo hi offs =>
    obtain ⟨len, od⟩ := od
    exact xo_table hx hb od h hr
  | iaload => exact xo_ald (Or.inl ⟨rfl, rfl, rfl⟩) hx hb od hK hT hX h hr
  | laload => exact xo_ald (Or.inr (Or.inl ⟨rfl, rfl, rfl⟩)) hx hb od hK hT hX h hr
  | baload => exact xo_ald (Or.inr (Or.inr (Or.inl ⟨rfl, rfl, rfl⟩))) hx hb od hK hT hX h hr
  | aaload => exact xo_ald (Or.inr (Or.inr (Or.inr ⟨rfl, rfl, rfl⟩))) hx hb od hK hT hX h hr
  | iastore => exact xo_ast (Or.inl ⟨rfl, rfl, rfl⟩) (fun e0 => by omega) hx hb od hK hT h hr
  | lastore => exact xo_ast (Or.inr (Or.inl ⟨rfl, rfl, rfl⟩)) (fun e0 => by omega) hx hb od hK hT h hr
  | bastore =>
    match st, h with
    | x :: st, h =>
      have h : (if xbool x = true then xh_ast 2 0 pc lv (x :: st) w k n else none) = some r := h
      by_cases hz : xbool x = true
      · rw [if_pos hz] at h
        exact xo_ast (Or.inr (Or.inr ⟨rfl, rfl, rfl⟩)) (fun _ y st' e0 => by cases e0; exact hz) hx hb od hK hT h hr
      · rw [if_neg hz] at h
        cases h
  | aastore => exact xo_aast hTC hx hb od hK h hr
  | arraylength => exact xo_alen hx hb od hK hT hX h hr
  | newarray t =>
    obtain ⟨o1, o2, o3⟩ := oa
    have h : xh_newa 2 a (TY a) R.cells R.slots pc lv st w k n = some r := by rw [hRk, hRn]; exact h
    exact xo_newa o1 (hts _ o3) hx hb od hK hT hA o2 h hr
  | anewarray j =>
    obtain ⟨o1, o2, C, o3, o4, o5⟩ := oa
    have h : xh_newa 3 a (TY a) R.cells R.slots pc lv st w k n = some r := by rw [hRk, hRn]; exact h
    exact xo_newq o1 o2 (hTY a C o1 o2 o3) hown (hts _ o4) (hE.2.2.2.2.2 _ o5) hx hb od hK hA o3 h hr
  | new j =>
    obtain ⟨C, T, N, ty, fs, fv, o1, o2, o3, o4, o5, o6, o7, o8⟩ := oa
    have h : xh_new a (FD a) R.cells R.slots pc lv st w k n = some r := by rw [hRk, hRn]; exact h
    exact xo_new o1 o3 (fun as => o4 as ex) o5 hts hown (hts _ o6) (hts _ o7) (hts _ o8) hx hb od hK hA o2 h hr
  | getfield j =>
    obtain ⟨C, T, N, ty, o1, o2, o3⟩ := oa
    exact xo_get o1 o2 hts hown (hts _ o3) hx hb od hK h hr
  | putfield j =>
    obtain ⟨C, T, N, ty, o1, o2, o3, o4, o5⟩ := oa
    exact xo_put o1 o2 (o5.imp id (fun q => ⟨q.1, hname q.2.1, q.2.2⟩)) hts hown (hts _ o3) hx hb od hK o4 h hr
  | getstatic j =>
    obtain ⟨C, n0, d0, o1, o2⟩ := oa
    obtain ⟨a', ha, hZ⟩ := hE.2.2.1 _ o1
    refine xo_push (v := .inr (.inr (2, a))) (val := .ref a') (fun _ => Or.inr ⟨a', rfl, Or.inr ⟨rfl, ha⟩⟩) h hr (fun H locs ls vs hS kk => ?_)
    rcases o2 with o2 | ⟨h0, o2⟩
    · exact va_gets hx hb hZ hS hown (hts _ o2) (fun _ h9 => h9) od kk
    · exact va_getsN hx hb hZ hS hown (va_Nw.use rfl (hE.2.2.2.2.1 _ o2)) (fun _ h9 => h9) od kk
  | invokevirtual j =>
    obtain ⟨N, C, o1, o2, o3, o4, o5, o6, o7, o, o8, o9⟩ := oa
    have h : xh_call cf M (MT a) a b true pc lv st w k n = some r := h
    rw [o1] at h
    refine xo_call hE hA hRf hRo hRk hRn (fun as w ro w' hc => hcf a N as w ro w' o1 hc) (fun ro w' vals rest ws H locs ls e1 e2 e3 e4 e5 e6 e7 e8 e9 hM hp => ?_) h hr
    obtain ⟨b0, As, q, fs, rfl, g1, g2⟩ := xrecv_in (by simpa using e6) e3
    obtain ⟨e0, g3, fv, rfl, g4⟩ := e4.at g2 g1
    have hst : (Value.ref b0 :: As).reverse ++ rest = As.reverse ++ .ref b0 :: rest := by rw [List.reverse_cons, List.append_assoc]; rfl
    rw [hst] at e9 ⊢
    have hgood : GoodIn Ts (wsV (xm_y M).cls j C (xm_y N) (xws Ts N)) := fun w hw => by
      unfold wsV at hw
      rcases List.mem_append.mp hw with hw | hw
      · have hm : w ∈ Ts := by
          simp only [List.mem_cons, List.mem_nil_iff, or_false] at hw
          rcases hw with rfl | rfl | rfl | rfl
          · exact o2
          · exact o3
          · exact o4
          · exact o5
        exact ⟨hm, hG _ hm⟩
      · exact hGI N o6 w hw
    exact va_runV ⟨hx, hb, hml, hown, hts⟩ hM (cwV (b - 1) hts hgood rfl rfl rfl o7 e7) ⟨hp.1, by
      have := va_recv hK e5 (ci := xm_i N) (q0 := q) o8 g3
      rw [o9] at this
      exact this, hp.2⟩ rfl (by simp at e1; omega) e2 rfl e9 od e8
  | invokestatic j =>
    have h : (if a < 7000 then xh_call cf M (MT a) a b false pc lv st w k n else if a = 7000 then xh_m2 (fun x y => if x < y then y else x) M pc lv st w k n else if a = 7001 then xh_m2 (fun x y => if y < x then y else x) M pc lv st w k n else if a = 7002 then xh_m1 (fun x => if 0 ≤ x then x else 0 - x) M pc lv st w k n else if a = 8888 then xh_cpy M pc lv st w k n else none) = some r := h
    rcases oa with ⟨rfl, w1, w2, w3, w4⟩ | ⟨rfl, w1, w2, w3, w4⟩ | ⟨rfl, w1, w2, w3, w4⟩ | ⟨rfl, w1, w2, w3, w4⟩ | ⟨o0, N, o1, o2, o3, o4, o5, o6⟩
    · exact xo_m2 (M := M) h hr (fun x y H locs ls vs e1 e2 e3 e4 e5 kk => va_mmax hx hb (hml.trans e1.symm) hown (hts _ w1) (hts _ w2) (hts _ w3) (hts _ w4) (by rw [hRf]; exact e2) (by rw [hRo]; exact e3) (by rw [hRk]; exact e4) (by rw [hRn]; exact e5) od kk)
    · exact xo_m2 (M := M) h hr (fun x y H locs ls vs e1 e2 e3 e4 e5 kk => va_mmin hx hb (hml.trans e1.symm) hown (hts _ w1) (hts _ w2) (hts _ w3) (hts _ w4) (by rw [hRf]; exact e2) (by rw [hRo]; exact e3) (by rw [hRk]; exact e4) (by rw [hRn]; exact e5) od kk)
    · exact xo_m1 (M := M) h hr (fun x H locs ls vs e1 e2 e3 e4 e5 kk => va_mabs hx hb (hml.trans e1.symm) hown (hts _ w1) (hts _ w2) (hts _ w3) (hts _ w4) (by rw [hRf]; exact e2) (by rw [hRo]; exact e3) (by rw [hRk]; exact e4) (by rw [hRn]; exact e5) od kk)
    · exact xo_cpy hRf hRo hml hown (hts _ w1) (hts _ w2) (hts _ w3) (hts _ w4) hK hT hx hb od h hr
    rw [if_pos o0, o1] at h
    refine xo_call hE hA hRf hRo hRk hRn (fun as w ro w' hc => hcf a N as w ro w' o1 hc) (fun ro w' vals rest ws H locs ls e1 e2 e3 e4 e5 e6 e7 e8 e9 hM hp => ?_) h hr
    rcases o2 with o2 | ⟨h0, o2⟩
    · have hgood : GoodIn Ts (va_wsS (xm_y M).cls j (xm_y N) (xws Ts N)) := fun w hw => by
        unfold va_wsS at hw
        rcases List.mem_append.mp hw with hw | hw
        · have hm : w ∈ Ts := by
            simp only [List.mem_cons, List.mem_nil_iff, or_false] at hw
            rcases hw with rfl | rfl | rfl
            · exact o2
            · exact o3
            · exact o4
          exact ⟨hm, hG _ hm⟩
        · exact hGI N o5 w hw
      exact va_runS ⟨hx, hb, hml, hown, hts⟩ hM (va_cwS b hts hgood rfl rfl rfl o6 e7) hp rfl e1 e2 rfl e9 od e8
    · exact va_runSN ⟨hx, hb, hml, hown, hts⟩ hM ⟨va_cnB b hts (hGI N o5) rfl rfl rfl (hE.2.2.2.1 _ o2) (hts _ o4) o6 e7, hts _ o3, trivial⟩ hp rfl e1 e2 rfl e9 od e8
  | invokespecial j =>
    have h : (if a = 9999 then xh_oinit M pc lv st w k n else xh_call cf M (MT a) a b true pc lv st w k n) = some r := h
    rcases oa with ⟨o1, o2, o3, o4⟩ | ⟨o0, N, o1, o2, o3, o4, o5, o6, o7, o8⟩
    · rw [if_pos o1] at h
      exact xo_oinit hRf hRo hml hown (hts _ o2) (hts _ o3) (hts _ o4) hx hb od h hr
    · rw [if_neg o0, o1] at h
      refine xo_call hE hA hRf hRo hRk hRn (fun as w ro w' hc => hcf a N as w ro w' o1 hc) (fun ro w' vals rest ws H locs ls e1 e2 e3 e4 e5 e6 e7 e8 e9 hM hp => ?_) h hr
      obtain ⟨b0, As, q, fs, rfl, g1, g2⟩ := xrecv_in (by simpa using e6) e3
      have hst : (Value.ref b0 :: As).reverse ++ rest = As.reverse ++ .ref b0 :: rest := by rw [List.reverse_cons, List.append_assoc]; rfl
      rw [hst] at e9 ⊢
      have hw1 : xws Ts N = Cond.code (xm_y N) (xm_c N) (xm_l N) none :: Ts := by unfold xws; rw [o8]
      rcases o2 with o2 | ⟨h0, o2⟩
      · exact va_runI ⟨hx, hb, hml, hown, hts⟩ hM (cwI (b - 1) hts (hGI N o5) hw1 rfl rfl (hts _ o4) (hts _ o2) (hts _ o3) o7 o6 e7) hp rfl (by simp at e1; omega) e2 rfl e9 od e8
      · exact va_runIN ⟨hx, hb, hml, hown, hts⟩ hM ⟨va_cnB (b - 1) hts (hGI N o5) hw1 rfl rfl (hE.2.2.2.1 _ o2) (hts _ o4) o6 e7, o7, hts _ o3⟩ hp rfl (by simp at e1; omega) e2 rfl e9 od e8
  | ireturn =>
    match st, h with
    | [x], h =>
      have h : (if xkd x = 0 ∧ (!xz (xm_r M) || xbool x) = true then some (Sum.inr (some x, w, k, n)) else none) = some r := h
      by_cases hq : xkd x = 0 ∧ (!xz (xm_r M) || xbool x) = true
      · rw [if_pos hq] at h
        cases h
        intro H locs ls vs lw ws ⟨h1, h2, h3, h4, h5, h6, h7, h8⟩
        obtain ⟨v, _, rfl, hv, rfl⟩ := h2
        have hk := hv.vk
        rw [hq.1] at hk
        obtain ⟨y, rfl⟩ := hk
        exact hr pc .ireturn H locs ls (some (.int y)) ws od oa ⟨y, rfl⟩ ⟨_, rfl, hv⟩ (fun hz x' e0 => by
          cases e0
          have hb2 := hq.2
          rw [hz] at hb2
          exact x_bool01 (by simpa using hb2) hv) h3 h4 h5 h6 h8
      · rw [if_neg hq] at h
        cases h
  | lreturn =>
    match st, h with
    | [x], h =>
      have h : (if xkd x = 1 ∧ (!xz none || xbool x) = true then some (Sum.inr (some x, w, k, n)) else none) = some r := h
      by_cases hq : xkd x = 1 ∧ (!xz none || xbool x) = true
      · rw [if_pos hq] at h
        cases h
        intro H locs ls vs lw ws ⟨h1, h2, h3, h4, h5, h6, h7, h8⟩
        obtain ⟨v, _, rfl, hv, rfl⟩ := h2
        have hk := hv.vk
        rw [hq.1] at hk
        obtain ⟨y, rfl⟩ := hk
        exact hr pc .lreturn H locs ls (some (.long y)) ws od oa ⟨y, rfl⟩ ⟨_, rfl, hv⟩ (fun hz x' e0 => by cases e0) h3 h4 h5 h6 h8
      · rw [if_neg hq] at h
        cases h
  | areturn =>
    match st, h with
    | [x], h =>
      have h : (if xkd x = 2 ∧ (!xz none || xbool x) = true then some (Sum.inr (some x, w, k, n)) else none) = some r := h
      by_cases hq : xkd x = 2 ∧ (!xz none || xbool x) = true
      · rw [if_pos hq] at h
        cases h
        intro H locs ls vs lw ws ⟨h1, h2, h3, h4, h5, h6, h7, h8⟩
        obtain ⟨v, _, rfl, hv, rfl⟩ := h2
        have hk := hv.vk
        rw [hq.1] at hk
        refine hr pc .areturn H locs ls (some v) ws od oa ?_ ⟨_, rfl, hv⟩ (fun hz x' e0 => ?_) h3 h4 h5 h6 h8
        · rcases hk with rfl | ⟨y, rfl⟩
          · exact Or.inl rfl
          · exact Or.inr ⟨y, rfl⟩
        · rcases hk with rfl | ⟨y, rfl⟩ <;> cases e0
      · rw [if_neg hq] at h
        cases h
  | return_ =>
    match st, h with
    | [], h =>
      have h : some (Sum.inr (none, w, k, n)) = some r := h
      cases h
      intro H locs ls vs lw ws ⟨h1, h2, h3, h4, h5, h6, h7, h8⟩
      have h2 : vs = [] := h2
      subst h2
      exact hr pc .return_ H locs ls none ws od oa rfl rfl (fun hz x' e0 => by cases e0) h3 h4 h5 h6 h8
  | _ => exact nomatch (show (none : Option XR) = some r from h)
end XI
def xstep (cf : XF) (MT : Nat → Option XM) (FT : Nat → Nat → Option FieldType) (FD : Nat → Option (List XV)) (TY : Nat → Option FieldType) (TC : Nat → Option Nat) (exc : List (List XV)) (M : XM) (S : XS) : Option XR := match xfetch (xm_t M) S.1 with
  | some q => xins cf MT FT FD TY TC exc M q.1 q.2.1 q.2.2.1 q.2.2.2 S.1 S.2.1 S.2.2.1 S.2.2.2.1 S.2.2.2.2.1 S.2.2.2.2.2
  | none => none
def xrun (f : XS → Option XR) : Nat → XS → Option XR
  | 0, S => f S
  | n + 1, S => match xrun f n S with
    | some (.inl S') => xrun f n S'
    | some (.inr q) => some (.inr q)
    | none => none
def xcall (MT : Nat → Option XM) (FT : Nat → Nat → Option FieldType) (FD : Nat → Option (List XV)) (TY : Nat → Option FieldType) (TC : Nat → Option Nat) (exc : List (List XV)) (ov : XF) (fu : Nat) : Nat → XF
  | 0, _, _, _ => none
  | d + 1, j, as, w => match ov j as w with
    | some q => some q
    | none => match MT j with
      | none => none
      | some N => if (as.map xcat).sum ≤ xm_l N then (match xrun (xstep (xcall MT FT FD TY TC exc ov fu d) MT FT FD TY TC exc N) fu (0, xk_args 0 as, [], w, 0, 0) with
        | some (.inr q) => if q.2.2.1 ≤ xm_k N ∧ q.2.2.2 ≤ xm_n N then some (q.1, q.2.1) else none
        | _ => none) else none
theorem xrun_ok {f : XS → Option XR} {P : XR → Prop} (hf : ∀ S r, f S = some r → P r → P (.inl S)) : ∀ (n : Nat) (S : XS) (r : XR), xrun f n S = some r → P r → P (.inl S)
  | 0, S, r, h, hr => hf S r h hr
  | n + 1, S, r, h, hr => by
    unfold xrun at h
    cases h1 : xrun f n S with
    | none => rw [h1] at h; cases h
    | some q =>
      rw [h1] at h
      match q, h, h1 with
      | .inl S', h, h1 => exact xrun_ok hf n S _ h1 (xrun_ok hf n S' r h hr)
      | .inr q, h, h1 =>
        cases h
        exact xrun_ok hf n S _ h1 hr
theorem x_lgsl : ∀ (vs : List Value), (lg_sl vs).length = (vs.map fun v => v.category).sum
  | [] => rfl
  | v :: vs => by
    have ih := x_lgsl vs
    rcases lv_cat v with h | h
    · simp [lg_sl, h] at ih ⊢
      omega
    · simp [lg_sl, h] at ih ⊢
      omega
set_option maxHeartbeats 4000000 in
theorem xcall_met {l : Launch} {D : va_G} {cl : List vw_C} {tys : List (ClassId × FieldType)} {tA : Nat → ClassId} {ex : List Nat} {exc : List (List XV)} {Ts : List Cond} {SV : List (String × String × String × Nat)} {NW : List (String × Nat × MethodName × String)} {NF : List (String × Nat × String × String × String × String)} {MT : Nat → Option XM} {FT : Nat → Nat → Option FieldType} {FD : Nat → Option (List XV)} {TY : Nat → Option FieldType} {TC : Nat → Option Nat} {ov : XF} {fu : Nat} (hG : ∀ w ∈ Ts, (w.onTables && w.keeps) = true ∨ ∃ ty, w = .arrayClass ty) (hT : xty tys tA) (hTY : ∀ t C, 3 ≤ t → t < 7 → TY t = some (.object C) → tys[t]? = some (tA t, .object C)) (hTC : ∀ t b, TC t = some b → 3 ≤ t ∧ t < 7 ∧ ∃ o : vw_C, cl[b]? = some o ∧ tys[t]? = some (tA t, .object o.1))
    (hok : ∀ j N, MT j = some N → plainName (xm_y N).cls = true ∧ ∀ pc q, xfetch (xm_t N) pc = some q → xdec (xm_c N) pc q.1 ∧ xaux cl Ts MT FT FD TY SV NW NF N pc q.2.1 q.2.2.1 q.2.2.2 q.1)
    (hov : ∀ (j : Nat) (N : XM) (as : List XV) (w : XW) (ro : Option XV) (w' : XW), MT j = some N → ov j as w = some (ro, w') → XMet l D cl tys tA ex exc SV NW NF Ts N as w ro w') :
    ∀ (d j : Nat) (N : XM) (as : List XV) (w : XW) (ro : Option XV) (w' : XW), MT j = some N → xcall MT FT FD TY TC exc ov fu d j as w = some (ro, w') → XMet l D cl tys tA ex exc SV NW NF Ts N as w ro w' := by
  intro d
  induction d with
  | zero => intro j N as w ro w' _ h; cases h
  | succ d ih =>
    intro j N as w ro w' hN h
    unfold xcall at h
    cases ho : ov j as w with
    | some q =>
      rw [ho] at h
      cases h
      exact hov j N as w ro w' hN ho
    | none =>
      rw [ho, hN] at h
      dsimp only at h
      by_cases hc : (as.map xcat).sum ≤ xm_l N
      · rw [if_pos hc] at h
        cases hrun : xrun (xstep (xcall MT FT FD TY TC exc ov fu d) MT FT FD TY TC exc N) fu (0, xk_args 0 as, [], w, 0, 0) with
        | none => rw [hrun] at h; cases h
        | some q =>
          rw [hrun] at h
          match q, h, hrun with
          | .inl _, h, _ => cases h
          | .inr (ro', w2, k2, n2), h, hrun =>
            dsimp only at h
            by_cases hcap : k2 ≤ xm_k N ∧ n2 ≤ xm_n N
            · rw [if_pos hcap] at h
              cases h
              intro vals ws sz hvals hws
              refine Met.ofW (cc := xm_c N) (maxL := xm_l N) (ret := xm_r N) (hok j N hN).1 rfl ?_
              intro p e s m args below meth c s₁ B hml hv
              obtain ⟨rfl, hsz, hP, hD0, hE⟩ := hv
              have hx := B.exec
              have hb := B.bytes
              have hr := B.returns
              have hts0 := atoms_spec (ws := xws Ts N) B.pre
              have hts : ∀ w ∈ Ts, w.before vals.toArray s = true := fun w h => hts0 w (List.mem_cons_of_mem _ h)
              have hown : s.vm.findClass (xm_y N).cls = some m.cls := findClass_of_methodNamed B.named
              have hname : (xm_y N).name = "<init>" → meth.name = "<init>" := fun h => (name_of_methodNamed B.named B.method).1.trans h
              have hlocks := B.notSynchronized
              subst hsz
              have hD := hD0.self (sz := s.heap.size)
              have hA : ∀ q : Nat, s.heap.size ≤ q → va_A ws s.heap.size q := fun q h => Or.inr h
              have hl := lv_entry vals (n := xm_l N) (by rw [x_lgsl, hvals.cats]; exact hc)
              rw [lg_entry_eq]
              have key := xrun_ok (P := XRs p l e (headSpec (xws Ts N) (xrm N)).room s m vals.toArray below meth c (MQ below (XQ D cl tA ex ro w' ws s.heap.size) vals.toArray s (xm_k N) (xm_n N) (va_A ws s.heap.size)) (xm_c N) (xm_l N) D cl tA (va_A ws s.heap.size) (xad ws) ex (xm_r N)) (fun S r hS hR => by
                unfold xstep at hS
                cases hf : xfetch (xm_t N) S.1 with
                | none => rw [hf] at hS; cases hS
                | some q =>
                  rw [hf] at hS
                  obtain ⟨od, oa⟩ := (hok j N hN).2 S.1 q hf
                  exact xins_ok hx hb hml hown hname hts hG hE hA rfl rfl rfl rfl hT hTY hTC (fun j N as w ro w' => ih j N as w ro w') od oa hS hR) fu _ _ hrun ?_
              · exact key s.heap [] _ [] (lv_args 0 vals) ws ⟨xk_in.args 0 hvals, rfl, hws, hP, hD, va_S.rf, hl, [], by simp⟩
              · intro pc i H locs ls rv ws' hd hrt hrk ho hz hw hP hD hS htl
                refine W.widen hcap.1 hcap.2 ?_
                have fin : ∀ (o : Option Value), o = rv → ∀ t : State, t.heap = H → s.WarmedH t.vm → XQ D cl tA ex ro w' ws s.heap.size vals.toArray s (.returned o) t := fun o e0 t ht _ => ⟨⟨rv, ws', by rw [e0], ho, by rw [ht]; exact hP, hD, hw, htl⟩, hS.F ht⟩
                cases i with
                | ireturn =>
                  obtain ⟨x, rfl⟩ := hrk
                  rcases hrt with h0 | h0
                  · exact W.iret (v := x) hx hb (hr.trans h0) (fin _ rfl) hS.2.2 hd
                  · exact W.zret (v := x) (ty := .boolean) hx hb (hr.trans h0) (by rcases hz (by rw [h0]; rfl) x rfl with rfl | rfl <;> decide +kernel) (fin _ rfl) hS.2.2 hd
                | lreturn =>
                  obtain ⟨x, rfl⟩ := hrk
                  exact W.lret (v := x) hx hb (hr.trans hrt) (fin _ rfl) hS.2.2 hd
                | areturn =>
                  obtain ⟨C, hrt⟩ := hrt
                  rcases hrk with rfl | ⟨x, rfl⟩
                  · exact W.aret (v := .null) hx hb (hr.trans hrt) (Or.inl ⟨C, rfl⟩) (Or.inl rfl) (fin _ rfl) hS.2.2 hd
                  · exact W.aret (v := .ref x) hx hb (hr.trans hrt) (Or.inl ⟨C, rfl⟩) (Or.inr ⟨x, rfl⟩) (fin _ rfl) hS.2.2 hd
                | return_ =>
                  have hrk : rv = none := hrk
                  subst hrk
                  exact W.vret hx hb (hr.trans hrt) (fin _ rfl) hS.2.2 hd
                | _ => exact absurd hrk id
            · rw [if_neg hcap] at h
              cases h
      · rw [if_neg hc] at h
        cases h
