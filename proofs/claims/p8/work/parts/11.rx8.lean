/-! ===== the tables' words, decided by lists of numbers ===== -/
def xTs : List Cond := lw_tbl.filter goodWord
theorem x_mem {w : Cond} (i : Nat) (h : lw_tbl[i]? = some w) (hg : goodWord w = true) : w ∈ xTs := List.mem_filter.mpr ⟨List.mem_of_getElem? h, hg⟩
theorem x_good : ∀ w ∈ xTs, (w.onTables && w.keeps) = true ∨ ∃ ty, w = .arrayClass ty := fun _ hw => good_of_word (List.mem_filter.mp hw).2
section XB
variable (cl : List vw_C) (MT : Nat → Option XM) (FT : Nat → Nat → Option FieldType) (FD : Nat → Option (List XV)) (TY : Nat → Option FieldType) (SV : List (String × String × String × Nat)) (NW : List (String × Nat × MethodName × String)) (NF : List (String × Nat × String × String × String × String)) (xR : Nat → String) (fin : Nat → Nat → Bool)
variable (FL MV MS MI OI CL AL KI KL GS : List (Nat × Nat × Nat × Nat × Int))
/-- an instruction, decided: the tables' lists name its numbers -/
def xokb (M : XM) (pc a b : Nat) (z : Int) (i : Instr) : Bool := (match i with
  | .tableswitch .. => (match decode (xm_c M) pc with
    | .ok q => decide (q.1 = i)
    | _ => false)
  | _ => (match decode (xm_c M) pc with
    | .ok q => decide (q = (i, xlen i))
    | _ => false)) && (match i with
  | .iconst v => decide ((Int32.ofInt v).toInt = z)
  | .bipush v => decide (((Int8.ofInt v).toInt32).toInt = z)
  | .sipush v => decide (((Int16.ofInt v).toInt32).toInt = z)
  | .ldc j => KI.contains (xm_i M, j, 0, 0, z)
  | .ldc_w j => KI.contains (xm_i M, j, 0, 0, z)
  | .lconst v => decide ((Int64.ofNat (v : Nat)).toInt = z)
  | .ldc2_w j => KL.contains (xm_i M, j, 0, 0, z)
  | .iinc _ g => decide ((Int32.ofInt g).toInt = z)
  | .ifCond _ o => decide ((pc : Int) + o = (a : Int))
  | .if_icmp _ o => decide ((pc : Int) + o = (a : Int))
  | .ifnull o => decide ((pc : Int) + o = (a : Int))
  | .ifnonnull o => decide ((pc : Int) + o = (a : Int))
  | .goto o => decide ((pc : Int) + o = (a : Int))
  | .newarray t => decide ((t = .int ∧ a = 0) ∨ (t = .long ∧ a = 1) ∨ (t = .boolean ∧ a = 2))
  | .anewarray j => AL.contains (xm_i M, j, a, 0, 0)
  | .new j => CL.contains (xm_i M, j, a, 0, 0)
  | .getfield j => FL.contains (xm_i M, j, a, b, 0)
  | .putfield j => FL.contains (xm_i M, j, a, b, 0) && (!fin a b || (decide ((xm_y M).name = "<init>") && xm_i M == a))
  | .getstatic j => GS.contains (xm_i M, j, a, 0, 0)
  | .invokevirtual j => MV.contains (xm_i M, j, a, b, 0)
  | .invokestatic j => MS.contains (xm_i M, j, a, b, 0)
  | .invokespecial j => if a = 9999 then OI.contains (xm_i M, j, 0, 0, 0) else MI.contains (xm_i M, j, a, b, 0)
  | .ireturn => decide (xm_r M = some .int ∨ xm_r M = some .boolean)
  | .lreturn => decide (xm_r M = some .long)
  | .areturn => (match xm_r M with
    | some (.object _) => true
    | _ => false)
  | .return_ => decide (xm_r M = none)
  | _ => true)
/-- what a list's numbers stand for -/
def xP_FL (q : Nat × Nat × Nat × Nat × Int) : Prop := ∃ (C : String) (T : u_T) (N : Nat) (ty : Nat → FieldType), xclo cl xTs q.2.2.1 C T N ty ∧ q.2.2.2.1 < N ∧ Cond.fieldLink (xR q.1) q.2.1 (T q.2.2.2.1).1 (T q.2.2.2.1).2.1 (T q.2.2.2.1).2.2.1 ∈ xTs ∧ FT q.2.2.1 q.2.2.2.1 = some (ty q.2.2.2.1) ∧ (T q.2.2.2.1).2.2.2 = fin q.2.2.1 q.2.2.2.1 ∧ (T q.2.2.2.1).1 = xR q.2.2.1
def xP_MV (q : Nat × Nat × Nat × Nat × Int) : Prop := ∃ (N : XM) (C : String), MT q.2.2.1 = some N ∧ Cond.methodLink (xR q.1) q.2.1 (xm_y N) ∈ xTs ∧ Cond.instanceMethod (xm_y N) ∈ xTs ∧ Cond.selects C (xm_y N) (xm_y N) ∈ xTs ∧ Cond.initialized C ∈ xTs ∧ Cond.code (xm_y N) (xm_c N) (xm_l N) (xm_r N) ∈ xTs ∧ ((xm_y N).cls = C ∧ (xm_y N).cls ≠ "java/lang/invoke/MethodHandle" ∧ (xm_y N).cls ≠ "java/lang/invoke/VarHandle" ∧ (parseMethodDescriptor (xm_y N).desc).map (fun d => d.parameters.length) = some (q.2.2.2.1 - 1)) ∧ ∃ o : vw_C, cl[xm_i N]? = some o ∧ o.1 = C
def xP_MS (q : Nat × Nat × Nat × Nat × Int) : Prop := (q.2.2.1 = 7000 ∧ xmw xTs (xR q.1) q.2.1 Lib.Math.max.name Lib.Math.max.code 2) ∨ (q.2.2.1 = 7001 ∧ xmw xTs (xR q.1) q.2.1 Lib.Math.min.name Lib.Math.min.code 2) ∨ (q.2.2.1 = 7002 ∧ xmw xTs (xR q.1) q.2.1 Lib.Math.abs.name Lib.Math.abs.code 1) ∨ (q.2.2.1 = 8888 ∧ Cond.methodLink (xR q.1) q.2.1 arraycopyName ∈ xTs ∧ Cond.native arraycopyName ∈ xTs ∧ Cond.static arraycopyName ∈ xTs ∧ Cond.initialized "java/lang/System" ∈ xTs) ∨ (q.2.2.1 < 7000 ∧ ∃ N : XM, MT q.2.2.1 = some N ∧ (Cond.methodLink (xR q.1) q.2.1 (xm_y N) ∈ xTs ∨ ∃ h, (xR q.1, q.2.1, xm_y N, h) ∈ NW) ∧ Cond.static (xm_y N) ∈ xTs ∧ Cond.initialized (xm_y N).cls ∈ xTs ∧ Cond.code (xm_y N) (xm_c N) (xm_l N) (xm_r N) ∈ xTs ∧ ((xm_y N).cls ≠ "java/lang/invoke/MethodHandle" ∧ (xm_y N).cls ≠ "java/lang/invoke/VarHandle" ∧ (parseMethodDescriptor (xm_y N).desc).map (fun d => d.parameters.length) = some q.2.2.2.1))
def xP_MI (q : Nat × Nat × Nat × Nat × Int) : Prop := ∃ N : XM, MT q.2.2.1 = some N ∧ (Cond.methodLink (xR q.1) q.2.1 (xm_y N) ∈ xTs ∨ ∃ h, (xR q.1, q.2.1, xm_y N, h) ∈ NW) ∧ Cond.instanceMethod (xm_y N) ∈ xTs ∧ Cond.initialized (xm_y N).cls ∈ xTs ∧ Cond.code (xm_y N) (xm_c N) (xm_l N) (xm_r N) ∈ xTs ∧ ((xm_y N).cls ≠ "java/lang/invoke/MethodHandle" ∧ (xm_y N).cls ≠ "java/lang/invoke/VarHandle" ∧ (parseMethodDescriptor (xm_y N).desc).map (fun d => d.parameters.length) = some (q.2.2.2.1 - 1)) ∧ (xm_y N).name = "<init>" ∧ xm_r N = none
def xP_OI (q : Nat × Nat × Nat × Nat × Int) : Prop := Cond.methodLink (xR q.1) q.2.1 Lib.objectInit ∈ xTs
def xP_CL (q : Nat × Nat × Nat × Nat × Int) : Prop := ∃ (C : String) (T : u_T) (N : Nat) (ty : Nat → FieldType) (fs : List XV) (fv : List Value), xclo cl xTs q.2.2.1 C T N ty ∧ FD q.2.2.1 = some fs ∧ fs.length = N ∧ (∀ as ex : List Nat, xl_in as ex fs fv) ∧ (∀ j, j < N → defaultValue (ty j) = vp_V fv j) ∧ Cond.classLink (xR q.1) q.2.1 C ∈ xTs ∧ Cond.instantiable C N ∈ xTs ∧ Cond.initialized C ∈ xTs
def xP_AL (q : Nat × Nat × Nat × Nat × Int) : Prop := 3 ≤ q.2.2.1 ∧ q.2.2.1 < 7 ∧ ∃ C, TY q.2.2.1 = some (.object C) ∧ Cond.classLink (xR q.1) q.2.1 C ∈ xTs ∧ C ∈ xAO
def xP_KI (q : Nat × Nat × Nat × Nat × Int) : Prop := ∃ v : Int32, Cond.constant (xR q.1) q.2.1 v ∈ xTs ∧ v.toInt = q.2.2.2.2
def xP_KL (q : Nat × Nat × Nat × Nat × Int) : Prop := ∃ v : Int64, Cond.constantLong (xR q.1) q.2.1 v ∈ xTs ∧ v.toInt = q.2.2.2.2
def xP_GS (q : Nat × Nat × Nat × Nat × Int) : Prop := ∃ C n d, (C, n, d, q.2.2.1) ∈ SV ∧ (Cond.fieldLink (xR q.1) q.2.1 C n d ∈ xTs ∨ ∃ h, (xR q.1, q.2.1, C, n, d, h) ∈ NF)
end XB
section XB2
variable {cl : List vw_C} {MT : Nat → Option XM} {FT : Nat → Nat → Option FieldType} {FD : Nat → Option (List XV)} {TY : Nat → Option FieldType} {SV : List (String × String × String × Nat)} {NW : List (String × Nat × MethodName × String)} {NF : List (String × Nat × String × String × String × String)} {xR : Nat → String} {fin : Nat → Nat → Bool} {FL MV MS MI OI CL AL KI KL GS : List (Nat × Nat × Nat × Nat × Int)}
theorem x_dec {cc : ByteArray} {pc : Nat} {i : Instr} {n : Nat} (h : (match decode cc pc with
    | .ok q => decide (q = (i, n))
    | _ => false) = true) : decode cc pc = .ok (i, n) := by
  cases hd : decode cc pc with
  | error e => rw [hd] at h; cases h
  | ok q =>
    rw [hd] at h
    rw [of_decide_eq_true h]
theorem x_decT {cc : ByteArray} {pc : Nat} {i : Instr} (h : (match decode cc pc with
    | .ok q => decide (q.1 = i)
    | _ => false) = true) : ∃ n, decode cc pc = .ok (i, n) := by
  cases hd : decode cc pc with
  | error e => rw [hd] at h; cases h
  | ok q =>
    rw [hd] at h
    have h := of_decide_eq_true h
    subst h
    exact ⟨q.2, rfl⟩
theorem x_cont {L : List (Nat × Nat × Nat × Nat × Int)} {q : Nat × Nat × Nat × Nat × Int} (h : L.contains q = true) : q ∈ L := by simpa using h
set_option maxHeartbeats 4000000 in
theorem xokb_ok {M : XM} {pc a b : Nat} {z : Int} {i : Instr} (hR : xR (xm_i M) = (xm_y M).cls) (hTY : TY 0 = some .int ∧ TY 1 = some .long ∧ TY 2 = some .boolean) (hac : Cond.arrayClass .int ∈ xTs ∧ Cond.arrayClass .long ∈ xTs ∧ Cond.arrayClass .boolean ∈ xTs) (hoi : Cond.instanceMethod Lib.objectInit ∈ xTs ∧ Cond.code Lib.objectInit ⟨#[0xb1]⟩ 1 none ∈ xTs)
    (hFL : ∀ q ∈ FL, xP_FL cl FT xR fin q) (hMV : ∀ q ∈ MV, xP_MV cl MT xR q) (hMS : ∀ q ∈ MS, xP_MS MT NW xR q) (hMI : ∀ q ∈ MI, xP_MI MT NW xR q) (hOI : ∀ q ∈ OI, xP_OI xR q) (hCL : ∀ q ∈ CL, xP_CL cl FD xR q) (hAL : ∀ q ∈ AL, xP_AL TY xR q) (hKI : ∀ q ∈ KI, xP_KI xR q) (hKL : ∀ q ∈ KL, xP_KL xR q) (hGS : ∀ q ∈ GS, xP_GS SV NF xR q)
    (h : xokb fin FL MV MS MI OI CL AL KI KL GS M pc a b z i = true) : xdec (xm_c M) pc i ∧ xaux cl xTs MT FT FD TY SV NW NF M pc a b z i := by
  unfold xokb at h
  rw [Bool.and_eq_true] at h
  obtain ⟨h1, h2⟩ := h
  cases i with
  | tableswitch d lo hi o => exact ⟨x_decT h1, trivial⟩
  | iconst v => exact ⟨x_dec h1, of_decide_eq_true (p := (Int32.ofInt v).toInt = z) h2⟩
  | bipush v => exact ⟨x_dec h1, of_decide_eq_true (p := ((Int8.ofInt v).toInt32).toInt = z) h2⟩
  | sipush v => exact ⟨x_dec h1, of_decide_eq_true (p := ((Int16.ofInt v).toInt32).toInt = z) h2⟩
  | lconst v => exact ⟨x_dec h1, of_decide_eq_true (p := (Int64.ofNat (v : Nat)).toInt = z) h2⟩
  | iinc j g => exact ⟨x_dec h1, of_decide_eq_true (p := (Int32.ofInt g).toInt = z) h2⟩
  | ifCond q o => exact ⟨x_dec h1, of_decide_eq_true (p := (pc : Int) + o = (a : Int)) h2⟩
  | if_icmp q o => exact ⟨x_dec h1, of_decide_eq_true (p := (pc : Int) + o = (a : Int)) h2⟩
  | ifnull o => exact ⟨x_dec h1, of_decide_eq_true (p := (pc : Int) + o = (a : Int)) h2⟩
  | ifnonnull o => exact ⟨x_dec h1, of_decide_eq_true (p := (pc : Int) + o = (a : Int)) h2⟩
  | goto o => exact ⟨x_dec h1, of_decide_eq_true (p := (pc : Int) + o = (a : Int)) h2⟩
  | ldc j =>
    obtain ⟨v, o1, o2⟩ := hKI _ (x_cont h2)
    exact ⟨x_dec h1, v, by rw [← hR]; exact o1, o2⟩
  | ldc_w j =>
    obtain ⟨v, o1, o2⟩ := hKI _ (x_cont h2)
    exact ⟨x_dec h1, v, by rw [← hR]; exact o1, o2⟩
  | ldc2_w j =>
    obtain ⟨v, o1, o2⟩ := hKL _ (x_cont h2)
    exact ⟨x_dec h1, v, by rw [← hR]; exact o1, o2⟩
  | newarray t =>
    have h2 := of_decide_eq_true (p := (t = .int ∧ a = 0) ∨ (t = .long ∧ a = 1) ∨ (t = .boolean ∧ a = 2)) h2
    refine ⟨x_dec h1, h2, ?_, ?_⟩
    · rcases h2 with ⟨rfl, rfl⟩ | ⟨rfl, rfl⟩ | ⟨rfl, rfl⟩
      · exact hTY.1
      · exact hTY.2.1
      · exact hTY.2.2
    · rcases h2 with ⟨rfl, rfl⟩ | ⟨rfl, rfl⟩ | ⟨rfl, rfl⟩
      · exact hac.1
      · exact hac.2.1
      · exact hac.2.2
  | anewarray j =>
    obtain ⟨o1, o2, C, o3, o4, o5⟩ := hAL _ (x_cont h2)
    exact ⟨x_dec h1, o1, o2, C, o3, by rw [← hR]; exact o4, o5⟩
  | new j =>
    obtain ⟨C, T, N, ty, fs, fv, o1, o2, o3, o4, o5, o6, o7, o8⟩ := hCL _ (x_cont h2)
    exact ⟨x_dec h1, C, T, N, ty, fs, fv, o1, o2, o3, o4, o5, by rw [← hR]; exact o6, o7, o8⟩
  | getfield j =>
    obtain ⟨C, T, N, ty, o1, o2, o3, o4, o5, o6⟩ := hFL _ (x_cont h2)
    exact ⟨x_dec h1, C, T, N, ty, o1, o2, by rw [← hR]; exact o3⟩
  | putfield j =>
    rw [Bool.and_eq_true] at h2
    obtain ⟨C, T, N, ty, o1, o2, o3, o4, o5, o6⟩ := hFL _ (x_cont h2.1)
    refine ⟨x_dec h1, C, T, N, ty, o1, o2, by rw [← hR]; exact o3, o4, ?_⟩
    have h3 := h2.2
    rw [Bool.or_eq_true, Bool.not_eq_true', Bool.and_eq_true] at h3
    rcases h3 with h3 | ⟨h3, h4⟩
    · exact Or.inl (o5.trans h3)
    · have h4 : xm_i M = a := by simpa using h4
      cases hf : (T b).2.2.2 with
      | false => exact Or.inl rfl
      | true => exact Or.inr ⟨rfl, of_decide_eq_true h3, by rw [← hR, h4]; exact o6⟩
  | getstatic j =>
    obtain ⟨C, n, d, o1, o2⟩ := hGS _ (x_cont h2)
    exact ⟨x_dec h1, C, n, d, o1, by rw [← hR]; exact o2⟩
  | invokevirtual j =>
    obtain ⟨N, C, o1, o2, o3⟩ := hMV _ (x_cont h2)
    exact ⟨x_dec h1, N, C, o1, by rw [← hR]; exact o2, o3⟩
  | invokestatic j =>
    have hm := hMS _ (x_cont h2)
    refine ⟨x_dec h1, ?_⟩
    unfold xP_MS at hm
    rw [hR] at hm
    exact hm
  | invokespecial j =>
    refine ⟨x_dec h1, ?_⟩
    have h2 : (if a = 9999 then OI.contains (xm_i M, j, 0, 0, 0) else MI.contains (xm_i M, j, a, b, 0)) = true := h2
    by_cases ha : a = 9999
    · rw [if_pos ha] at h2
      have o1 : Cond.methodLink (xR (xm_i M)) j Lib.objectInit ∈ xTs := hOI _ (x_cont h2)
      exact Or.inl ⟨ha, by rw [← hR]; exact o1, hoi.1, hoi.2⟩
    · rw [if_neg ha] at h2
      obtain ⟨N, o1, o2, o3⟩ := hMI _ (x_cont h2)
      exact Or.inr ⟨ha, N, o1, by rw [← hR]; exact o2, o3⟩
  | ireturn => exact ⟨x_dec h1, of_decide_eq_true (p := xm_r M = some .int ∨ xm_r M = some .boolean) h2⟩
  | lreturn => exact ⟨x_dec h1, of_decide_eq_true (p := xm_r M = some .long) h2⟩
  | areturn =>
    refine ⟨x_dec h1, ?_⟩
    show ∃ C, xm_r M = some (.object C)
    have h2 : (match xm_r M with
      | some (.object _) => true
      | _ => false) = true := h2
    cases hr : xm_r M with
    | none => rw [hr] at h2; cases h2
    | some t =>
      rw [hr] at h2
      cases t <;> first | exact ⟨_, rfl⟩ | cases h2
  | return_ => exact ⟨x_dec h1, of_decide_eq_true (p := xm_r M = none) h2⟩
  | _ => exact ⟨x_dec h1, trivial⟩
/-- a method's whole table -/
def xtabb (fin : Nat → Nat → Bool) (FL MV MS MI OI CL AL KI KL GS : List (Nat × Nat × Nat × Nat × Int)) (M : XM) : Bool := (List.range (16 * (xm_t M).length)).all (fun pc => match xfetch (xm_t M) pc with
  | none => true
  | some q => xokb fin FL MV MS MI OI CL AL KI KL GS M pc q.2.1 q.2.2.1 q.2.2.2 q.1)
theorem x_fetch_lt {t : List (List (Option XE))} {pc : Nat} {q : XE} (h : xfetch t pc = some q) : pc < 16 * t.length := by
  unfold xfetch at h
  cases hr : t[pc / 16]? with
  | none => rw [hr] at h; cases h
  | some r =>
    have := (List.getElem?_eq_some_iff.mp hr).1
    omega
theorem xtabb_ok {M : XM} (h : xtabb fin FL MV MS MI OI CL AL KI KL GS M = true) {pc : Nat} {q : XE} (hq : xfetch (xm_t M) pc = some q) : xokb fin FL MV MS MI OI CL AL KI KL GS M pc q.2.1 q.2.2.1 q.2.2.2 q.1 = true := by
  have h1 := List.all_eq_true.mp h pc (List.mem_range.mpr (x_fetch_lt hq))
  rw [hq] at h1
  exact h1
end XB2
