/-! ===== an instruction held against its bytes ===== -/
def xb1 (l : List UInt8) (op : Nat) : Bool := match l with
  | b :: _ => b.toNat == op
  | _ => false
def xb2 (l : List UInt8) (op j : Nat) : Bool := match l with
  | b :: c :: _ => b.toNat == op && c.toNat == j
  | _ => false
def xb3 (l : List UInt8) (op j : Nat) : Bool := match l with
  | b :: c :: d :: _ => b.toNat == op && c.toNat * 256 + d.toNat == j
  | _ => false
def xbs (l : List UInt8) (op : Nat) (v : Int) : Bool := match l with
  | b :: c :: _ => b.toNat == op && decide (Reader.signed 8 c.toNat = v)
  | _ => false
def xbj (l : List UInt8) (op : Nat) (v : Int) : Bool := match l with
  | b :: c :: d :: _ => b.toNat == op && decide (Reader.signed 16 (c.toNat * 256 + d.toNat) = v)
  | _ => false
def xbi (l : List UInt8) (j : Nat) (v : Int) : Bool := match l with
  | b :: c :: d :: _ => b.toNat == 132 && (c.toNat == j && decide (Reader.signed 8 d.toNat = v))
  | _ => false
def xfd (l : List UInt8) : Instr → Bool
  | .aaload => xb1 l 50
  | .aastore => xb1 l 83
  | .aconst_null => xb1 l 1
  | .areturn => xb1 l 176
  | .arraylength => xb1 l 190
  | .baload => xb1 l 51
  | .bastore => xb1 l 84
  | .dup => xb1 l 89
  | .dup2 => xb1 l 92
  | .i2b => xb1 l 145
  | .i2l => xb1 l 133
  | .iadd => xb1 l 96
  | .iaload => xb1 l 46
  | .iand => xb1 l 126
  | .iastore => xb1 l 79
  | .idiv => xb1 l 108
  | .imul => xb1 l 104
  | .ineg => xb1 l 116
  | .ior => xb1 l 128
  | .irem => xb1 l 112
  | .ireturn => xb1 l 172
  | .ishl => xb1 l 120
  | .ishr => xb1 l 122
  | .isub => xb1 l 100
  | .iushr => xb1 l 124
  | .ixor => xb1 l 130
  | .l2i => xb1 l 136
  | .ladd => xb1 l 97
  | .laload => xb1 l 47
  | .land => xb1 l 127
  | .lastore => xb1 l 80
  | .lcmp => xb1 l 148
  | .ldiv => xb1 l 109
  | .lmul => xb1 l 105
  | .lneg => xb1 l 117
  | .lor => xb1 l 129
  | .lrem => xb1 l 113
  | .lreturn => xb1 l 173
  | .lshl => xb1 l 121
  | .lshr => xb1 l 123
  | .lsub => xb1 l 101
  | .lushr => xb1 l 125
  | .lxor => xb1 l 131
  | .pop => xb1 l 87
  | .pop2 => xb1 l 88
  | .return_ => xb1 l 177
  | .aload_n ⟨0, _⟩ => xb1 l 42
  | .aload_n ⟨1, _⟩ => xb1 l 43
  | .aload_n ⟨2, _⟩ => xb1 l 44
  | .aload_n ⟨3, _⟩ => xb1 l 45
  | .iload_n ⟨0, _⟩ => xb1 l 26
  | .iload_n ⟨1, _⟩ => xb1 l 27
  | .iload_n ⟨2, _⟩ => xb1 l 28
  | .iload_n ⟨3, _⟩ => xb1 l 29
  | .istore_n ⟨0, _⟩ => xb1 l 59
  | .istore_n ⟨1, _⟩ => xb1 l 60
  | .istore_n ⟨2, _⟩ => xb1 l 61
  | .istore_n ⟨3, _⟩ => xb1 l 62
  | .lload_n ⟨0, _⟩ => xb1 l 30
  | .lload_n ⟨1, _⟩ => xb1 l 31
  | .lload_n ⟨2, _⟩ => xb1 l 32
  | .lload_n ⟨3, _⟩ => xb1 l 33
  | .lstore_n ⟨0, _⟩ => xb1 l 63
  | .lstore_n ⟨1, _⟩ => xb1 l 64
  | .lstore_n ⟨2, _⟩ => xb1 l 65
  | .lstore_n ⟨3, _⟩ => xb1 l 66
  | .astore_n ⟨0, _⟩ => xb1 l 75
  | .astore_n ⟨1, _⟩ => xb1 l 76
  | .astore_n ⟨2, _⟩ => xb1 l 77
  | .astore_n ⟨3, _⟩ => xb1 l 78
  | .lconst ⟨0, _⟩ => xb1 l 9
  | .lconst ⟨1, _⟩ => xb1 l 10
  | .iconst (.ofNat 0) => xb1 l 3
  | .iconst (.ofNat 1) => xb1 l 4
  | .iconst (.ofNat 2) => xb1 l 5
  | .iconst (.ofNat 3) => xb1 l 6
  | .iconst (.ofNat 4) => xb1 l 7
  | .iconst (.ofNat 5) => xb1 l 8
  | .iconst (.negSucc 0) => xb1 l 2
  | .iload j => xb2 l 21 j
  | .lload j => xb2 l 22 j
  | .aload j => xb2 l 25 j
  | .istore j => xb2 l 54 j
  | .lstore j => xb2 l 55 j
  | .astore j => xb2 l 58 j
  | .ldc j => xb2 l 18 j
  | .ldc_w j => xb3 l 19 j
  | .ldc2_w j => xb3 l 20 j
  | .getstatic j => xb3 l 178 j
  | .getfield j => xb3 l 180 j
  | .putfield j => xb3 l 181 j
  | .invokevirtual j => xb3 l 182 j
  | .invokespecial j => xb3 l 183 j
  | .invokestatic j => xb3 l 184 j
  | .new j => xb3 l 187 j
  | .anewarray j => xb3 l 189 j
  | .goto j => xbj l 167 j
  | .ifnull j => xbj l 198 j
  | .ifnonnull j => xbj l 199 j
  | .sipush j => xbj l 17 j
  | .ifCond .eq j => xbj l 153 j
  | .if_icmp .eq j => xbj l 159 j
  | .ifCond .ne j => xbj l 154 j
  | .if_icmp .ne j => xbj l 160 j
  | .ifCond .lt j => xbj l 155 j
  | .if_icmp .lt j => xbj l 161 j
  | .ifCond .ge j => xbj l 156 j
  | .if_icmp .ge j => xbj l 162 j
  | .ifCond .gt j => xbj l 157 j
  | .if_icmp .gt j => xbj l 163 j
  | .ifCond .le j => xbj l 158 j
  | .if_icmp .le j => xbj l 164 j
  | .bipush v => xbs l 16 v
  | .iinc j v => xbi l j v
  | _ => false
section XF
variable {cc : ByteArray} {pc : Nat}
theorem xr_u1 {b : UInt8} {r : List UInt8} (h : cc.data.toList.drop pc = b :: r) : (Reader.u1 : Decoder Nat) cc pc = .ok (b.toNat, pc + 1) ∧ cc.data.toList.drop (pc + 1) = r := by
  have hlt : pc < cc.data.toList.length := by
    rcases Nat.lt_or_ge pc cc.data.toList.length with h1 | h1
    · exact h1
    · rw [List.drop_eq_nil_of_le h1] at h
      cases h
  rw [List.drop_eq_getElem_cons hlt] at h
  obtain ⟨h1, h2⟩ := List.cons.inj h
  have hs : pc < cc.size := hlt
  refine ⟨?_, h2⟩
  show (dite (pc < cc.size) (fun h => (do set (pc + 1); Pure.pure (cc[pc]'h).toNat : Decoder Nat)) (fun _ => throw (HasTruncated.truncated pc))) cc pc = _
  rw [dif_pos hs, ← h1]
  rfl
theorem xr_s1 {b : UInt8} {r : List UInt8} (h : cc.data.toList.drop pc = b :: r) : (Reader.s1 : Decoder Int) cc pc = .ok (Reader.signed 8 b.toNat, pc + 1) := by
  show (Except.bind ((Reader.u1 : Decoder Nat) cc pc) (fun q => .ok (Reader.signed 8 q.1, q.2)) : Except DecodeError (Int × Nat)) = _
  rw [(xr_u1 h).1]
  rfl
theorem xr_u2 {b c : UInt8} {r : List UInt8} (h : cc.data.toList.drop pc = b :: c :: r) : (Reader.u2 : Decoder Nat) cc pc = .ok (b.toNat * 256 + c.toNat, pc + 2) := by
  show (Except.bind ((Reader.u1 : Decoder Nat) cc pc) (fun q => Except.bind ((Reader.u1 : Decoder Nat) cc q.2) (fun p => .ok (q.1 * 256 + p.1, p.2))) : Except DecodeError (Nat × Nat)) = _
  rw [(xr_u1 h).1]
  show (Except.bind ((Reader.u1 : Decoder Nat) cc (pc + 1)) (fun p => .ok (b.toNat * 256 + p.1, p.2)) : Except DecodeError (Nat × Nat)) = _
  rw [(xr_u1 (xr_u1 h).2).1]
  rfl
theorem xr_s2 {b c : UInt8} {r : List UInt8} (h : cc.data.toList.drop pc = b :: c :: r) : (Reader.s2 : Decoder Int) cc pc = .ok (Reader.signed 16 (b.toNat * 256 + c.toNat), pc + 2) := by
  show (Except.bind ((Reader.u2 : Decoder Nat) cc pc) (fun q => .ok (Reader.signed 16 q.1, q.2)) : Except DecodeError (Int × Nat)) = _
  rw [xr_u2 h]
  rfl
theorem xr_dec {f : Nat → Decoder Instr} {b : UInt8} {r : List UInt8} {op n : Nat} {i : Instr} (hf : Decoder.instr pc = Reader.u1 >>= f) (h : cc.data.toList.drop pc = b :: r) (hb : b.toNat = op) (hk : f op cc (pc + 1) = .ok (i, pc + n)) : decode cc pc = .ok (i, n) := by
  have h1 : (Decoder.instr pc).runAt cc pc = .ok (i, pc + n) := by
    rw [hf]
    show (Except.bind ((Reader.u1 : Decoder Nat) cc pc) (fun q => f q.1 cc q.2) : Except DecodeError (Instr × Nat)) = _
    rw [(xr_u1 h).1]
    show f b.toNat cc (pc + 1) = _
    rw [hb]
    exact hk
  unfold decode
  rw [h1]
  show (.ok (i, pc + n - pc) : Except DecodeError (Instr × Nat)) = _
  rw [Nat.add_sub_cancel_left]
theorem xq_1 {f : Nat → Decoder Instr} {op : Nat} {i : Instr} (hf : Decoder.instr pc = Reader.u1 >>= f) (hk : f op = Pure.pure i) (h : xb1 (cc.data.toList.drop pc) op = true) : decode cc pc = .ok (i, 1) := by
  unfold xb1 at h
  split at h
  · rename_i b r hl
    exact xr_dec hf hl (by simpa using h) (by rw [hk]; rfl)
  · cases h
theorem xq_2 {f : Nat → Decoder Instr} {g : Nat → Instr} {op j : Nat} (hf : Decoder.instr pc = Reader.u1 >>= f) (hk : f op = (Reader.u1 >>= fun x => Pure.pure (g x))) (h : xb2 (cc.data.toList.drop pc) op j = true) : decode cc pc = .ok (g j, 2) := by
  unfold xb2 at h
  split at h
  · rename_i b c r hl
    rw [Bool.and_eq_true] at h
    have h2 : c.toNat = j := by simpa using h.2
    refine xr_dec hf hl (by simpa using h.1) ?_
    rw [hk]
    show (Except.bind ((Reader.u1 : Decoder Nat) cc (pc + 1)) (fun q => .ok (g q.1, q.2)) : Except DecodeError (Instr × Nat)) = _
    rw [(xr_u1 (xr_u1 hl).2).1, h2]
    rfl
  · cases h
theorem xq_s {f : Nat → Decoder Instr} {g : Int → Instr} {op : Nat} {j : Int} (hf : Decoder.instr pc = Reader.u1 >>= f) (hk : f op = (Reader.s1 >>= fun x => Pure.pure (g x))) (h : xbs (cc.data.toList.drop pc) op j = true) : decode cc pc = .ok (g j, 2) := by
  unfold xbs at h
  split at h
  · rename_i b c r hl
    rw [Bool.and_eq_true] at h
    have h2 := of_decide_eq_true h.2
    refine xr_dec hf hl (by simpa using h.1) ?_
    rw [hk]
    show (Except.bind ((Reader.s1 : Decoder Int) cc (pc + 1)) (fun q => .ok (g q.1, q.2)) : Except DecodeError (Instr × Nat)) = _
    rw [xr_s1 (xr_u1 hl).2, h2]
    rfl
  · cases h
theorem xq_3 {f : Nat → Decoder Instr} {g : Nat → Instr} {op j : Nat} (hf : Decoder.instr pc = Reader.u1 >>= f) (hk : f op = (Reader.u2 >>= fun x => Pure.pure (g x))) (h : xb3 (cc.data.toList.drop pc) op j = true) : decode cc pc = .ok (g j, 3) := by
  unfold xb3 at h
  split at h
  · rename_i b c d r hl
    rw [Bool.and_eq_true] at h
    have h2 : c.toNat * 256 + d.toNat = j := by simpa using h.2
    refine xr_dec hf hl (by simpa using h.1) ?_
    rw [hk]
    show (Except.bind ((Reader.u2 : Decoder Nat) cc (pc + 1)) (fun q => .ok (g q.1, q.2)) : Except DecodeError (Instr × Nat)) = _
    rw [xr_u2 (xr_u1 hl).2, h2]
    rfl
  · cases h
theorem xq_j {f : Nat → Decoder Instr} {g : Int → Instr} {op : Nat} {j : Int} (hf : Decoder.instr pc = Reader.u1 >>= f) (hk : f op = (Reader.s2 >>= fun x => Pure.pure (g x))) (h : xbj (cc.data.toList.drop pc) op j = true) : decode cc pc = .ok (g j, 3) := by
  unfold xbj at h
  split at h
  · rename_i b c d r hl
    rw [Bool.and_eq_true] at h
    have h2 := of_decide_eq_true h.2
    refine xr_dec hf hl (by simpa using h.1) ?_
    rw [hk]
    show (Except.bind ((Reader.s2 : Decoder Int) cc (pc + 1)) (fun q => .ok (g q.1, q.2)) : Except DecodeError (Instr × Nat)) = _
    rw [xr_s2 (xr_u1 hl).2, h2]
    rfl
  · cases h
theorem xq_i {f : Nat → Decoder Instr} {j : Nat} {v : Int} (hf : Decoder.instr pc = Reader.u1 >>= f) (hk : f 132 = (Reader.u1 >>= fun x => Reader.s1 >>= fun y => Pure.pure (.iinc x y))) (h : xbi (cc.data.toList.drop pc) j v = true) : decode cc pc = .ok (.iinc j v, 3) := by
  unfold xbi at h
  split at h
  · rename_i b c d r hl
    rw [Bool.and_eq_true, Bool.and_eq_true] at h
    have h2 : c.toNat = j := by simpa using h.2.1
    have h3 := of_decide_eq_true h.2.2
    refine xr_dec hf hl (by simpa using h.1) ?_
    have k1 := xr_u1 (xr_u1 hl).2
    rw [hk]
    show (Except.bind ((Reader.u1 : Decoder Nat) cc (pc + 1)) (fun q => Except.bind ((Reader.s1 : Decoder Int) cc q.2) (fun p => .ok (.iinc q.1 p.1, p.2))) : Except DecodeError (Instr × Nat)) = _
    rw [k1.1]
    show (Except.bind ((Reader.s1 : Decoder Int) cc (pc + 1 + 1)) (fun p => .ok (.iinc c.toNat p.1, p.2)) : Except DecodeError (Instr × Nat)) = _
    rw [xr_s1 k1.2, h2, h3]
    rfl
  · cases h
theorem xr_in {i : Instr} {n : Nat} (h : decode cc pc = .ok (i, n)) : (match decode cc pc with
    | .ok q => decide (q = (i, n))
    | _ => false) = true := by
  rw [h]
  exact decide_eq_true rfl
def xslow (cc : ByteArray) (pc : Nat) (i : Instr) : Bool := match i with
  | .tableswitch .. => (match decode cc pc with
    | .ok q => decide (q.1 = i)
    | _ => false)
  | _ => (match decode cc pc with
    | .ok q => decide (q = (i, xlen i))
    | _ => false)
set_option maxHeartbeats 4000000 in
theorem xfd_ok {i : Instr} (h : xfd (cc.data.toList.drop pc) i = true) : xslow cc pc i = true := by
  cases i with
  | aaload => exact xr_in (xq_1 (op := 50) rfl rfl h)
  | aastore => exact xr_in (xq_1 (op := 83) rfl rfl h)
  | aconst_null => exact xr_in (xq_1 (op := 1) rfl rfl h)
  | areturn => exact xr_in (xq_1 (op := 176) rfl rfl h)
  | arraylength => exact xr_in (xq_1 (op := 190) rfl rfl h)
  | baload => exact xr_in (xq_1 (op := 51) rfl rfl h)
  | bastore => exact xr_in (xq_1 (op := 84) rfl rfl h)
  | dup => exact xr_in (xq_1 (op := 89) rfl rfl h)
  | dup2 => exact xr_in (xq_1 (op := 92) rfl rfl h)
  | i2b => exact xr_in (xq_1 (op := 145) rfl rfl h)
  | i2l => exact xr_in (xq_1 (op := 133) rfl rfl h)
  | iadd => exact xr_in (xq_1 (op := 96) rfl rfl h)
  | iaload => exact xr_in (xq_1 (op := 46) rfl rfl h)
  | iand => exact xr_in (xq_1 (op := 126) rfl rfl h)
  | iastore => exact xr_in (xq_1 (op := 79) rfl rfl h)
  | idiv => exact xr_in (xq_1 (op := 108) rfl rfl h)
  | imul => exact xr_in (xq_1 (op := 104) rfl rfl h)
  | ineg => exact xr_in (xq_1 (op := 116) rfl rfl h)
  | ior => exact xr_in (xq_1 (op := 128) rfl rfl h)
  | irem => exact xr_in (xq_1 (op := 112) rfl rfl h)
  | ireturn => exact xr_in (xq_1 (op := 172) rfl rfl h)
  | ishl => exact xr_in (xq_1 (op := 120) rfl rfl h)
  | ishr => exact xr_in (xq_1 (op := 122) rfl rfl h)
  | isub => exact xr_in (xq_1 (op := 100) rfl rfl h)
  | iushr => exact xr_in (xq_1 (op := 124) rfl rfl h)
  | ixor => exact xr_in (xq_1 (op := 130) rfl rfl h)
  | l2i => exact xr_in (xq_1 (op := 136) rfl rfl h)
  | ladd => exact xr_in (xq_1 (op := 97) rfl rfl h)
  | laload => exact xr_in (xq_1 (op := 47) rfl rfl h)
  | land => exact xr_in (xq_1 (op := 127) rfl rfl h)
  | lastore => exact xr_in (xq_1 (op := 80) rfl rfl h)
  | lcmp => exact xr_in (xq_1 (op := 148) rfl rfl h)
  | ldiv => exact xr_in (xq_1 (op := 109) rfl rfl h)
  | lmul => exact xr_in (xq_1 (op := 105) rfl rfl h)
  | lneg => exact xr_in (xq_1 (op := 117) rfl rfl h)
  | lor => exact xr_in (xq_1 (op := 129) rfl rfl h)
  | lrem => exact xr_in (xq_1 (op := 113) rfl rfl h)
  | lreturn => exact xr_in (xq_1 (op := 173) rfl rfl h)
  | lshl => exact xr_in (xq_1 (op := 121) rfl rfl h)
  | lshr => exact xr_in (xq_1 (op := 123) rfl rfl h)
  | lsub => exact xr_in (xq_1 (op := 101) rfl rfl h)
  | lushr => exact xr_in (xq_1 (op := 125) rfl rfl h)
  | lxor => exact xr_in (xq_1 (op := 131) rfl rfl h)
  | pop => exact xr_in (xq_1 (op := 87) rfl rfl h)
  | pop2 => exact xr_in (xq_1 (op := 88) rfl rfl h)
  | return_ => exact xr_in (xq_1 (op := 177) rfl rfl h)
  | aload_n n =>
    match n, h with
    | ⟨0, _⟩, h => exact xr_in (xq_1 (op := 42) rfl rfl h)
    | ⟨1, _⟩, h => exact xr_in (xq_1 (op := 43) rfl rfl h)
    | ⟨2, _⟩, h => exact xr_in (xq_1 (op := 44) rfl rfl h)
    | ⟨3, _⟩, h => exact xr_in (xq_1 (op := 45) rfl rfl h)
    | ⟨m + 4, hm⟩, _ => exact absurd hm (by omega)
  | iload_n n =>
    match n, h with
    | ⟨0, _⟩, h => exact xr_in (xq_1 (op := 26) rfl rfl h)
    | ⟨1, _⟩, h => exact xr_in (xq_1 (op := 27) rfl rfl h)
    | ⟨2, _⟩, h => exact xr_in (xq_1 (op := 28) rfl rfl h)
    | ⟨3, _⟩, h => exact xr_in (xq_1 (op := 29) rfl rfl h)
    | ⟨m + 4, hm⟩, _ => exact absurd hm (by omega)
  | istore_n n =>
    match n, h with
    | ⟨0, _⟩, h => exact xr_in (xq_1 (op := 59) rfl rfl h)
    | ⟨1, _⟩, h => exact xr_in (xq_1 (op := 60) rfl rfl h)
    | ⟨2, _⟩, h => exact xr_in (xq_1 (op := 61) rfl rfl h)
    | ⟨3, _⟩, h => exact xr_in (xq_1 (op := 62) rfl rfl h)
    | ⟨m + 4, hm⟩, _ => exact absurd hm (by omega)
  | lload_n n =>
    match n, h with
    | ⟨0, _⟩, h => exact xr_in (xq_1 (op := 30) rfl rfl h)
    | ⟨1, _⟩, h => exact xr_in (xq_1 (op := 31) rfl rfl h)
    | ⟨2, _⟩, h => exact xr_in (xq_1 (op := 32) rfl rfl h)
    | ⟨3, _⟩, h => exact xr_in (xq_1 (op := 33) rfl rfl h)
    | ⟨m + 4, hm⟩, _ => exact absurd hm (by omega)
  | lstore_n n =>
    match n, h with
    | ⟨0, _⟩, h => exact xr_in (xq_1 (op := 63) rfl rfl h)
    | ⟨1, _⟩, h => exact xr_in (xq_1 (op := 64) rfl rfl h)
    | ⟨2, _⟩, h => exact xr_in (xq_1 (op := 65) rfl rfl h)
    | ⟨3, _⟩, h => exact xr_in (xq_1 (op := 66) rfl rfl h)
    | ⟨m + 4, hm⟩, _ => exact absurd hm (by omega)
  | astore_n n =>
    match n, h with
    | ⟨0, _⟩, h => exact xr_in (xq_1 (op := 75) rfl rfl h)
    | ⟨1, _⟩, h => exact xr_in (xq_1 (op := 76) rfl rfl h)
    | ⟨2, _⟩, h => exact xr_in (xq_1 (op := 77) rfl rfl h)
    | ⟨3, _⟩, h => exact xr_in (xq_1 (op := 78) rfl rfl h)
    | ⟨m + 4, hm⟩, _ => exact absurd hm (by omega)
  | lconst n =>
    match n, h with
    | ⟨0, _⟩, h => exact xr_in (xq_1 (op := 9) rfl rfl h)
    | ⟨1, _⟩, h => exact xr_in (xq_1 (op := 10) rfl rfl h)
    | ⟨m + 2, hm⟩, _ => exact absurd hm (by omega)
  | iconst v =>
    match v, h with
    | .ofNat 0, h => exact xr_in (xq_1 (op := 3) rfl rfl h)
    | .ofNat 1, h => exact xr_in (xq_1 (op := 4) rfl rfl h)
    | .ofNat 2, h => exact xr_in (xq_1 (op := 5) rfl rfl h)
    | .ofNat 3, h => exact xr_in (xq_1 (op := 6) rfl rfl h)
    | .ofNat 4, h => exact xr_in (xq_1 (op := 7) rfl rfl h)
    | .ofNat 5, h => exact xr_in (xq_1 (op := 8) rfl rfl h)
    | .negSucc 0, h => exact xr_in (xq_1 (op := 2) rfl rfl h)
    | .ofNat (m + 6), h => exact absurd h Bool.false_ne_true
    | .negSucc (m + 1), h => exact absurd h Bool.false_ne_true
  | iload j => exact xr_in (xq_2 (g := Instr.iload) (op := 21) rfl rfl h)
  | lload j => exact xr_in (xq_2 (g := Instr.lload) (op := 22) rfl rfl h)
  | aload j => exact xr_in (xq_2 (g := Instr.aload) (op := 25) rfl rfl h)
  | istore j => exact xr_in (xq_2 (g := Instr.istore) (op := 54) rfl rfl h)
  | lstore j => exact xr_in (xq_2 (g := Instr.lstore) (op := 55) rfl rfl h)
  | astore j => exact xr_in (xq_2 (g := Instr.astore) (op := 58) rfl rfl h)
  | ldc j => exact xr_in (xq_2 (g := Instr.ldc) (op := 18) rfl rfl h)
  | ldc_w j => exact xr_in (xq_3 (g := Instr.ldc_w) (op := 19) rfl rfl h)
  | ldc2_w j => exact xr_in (xq_3 (g := Instr.ldc2_w) (op := 20) rfl rfl h)
  | getstatic j => exact xr_in (xq_3 (g := Instr.getstatic) (op := 178) rfl rfl h)
  | getfield j => exact xr_in (xq_3 (g := Instr.getfield) (op := 180) rfl rfl h)
  | putfield j => exact xr_in (xq_3 (g := Instr.putfield) (op := 181) rfl rfl h)
  | invokevirtual j => exact xr_in (xq_3 (g := Instr.invokevirtual) (op := 182) rfl rfl h)
  | invokespecial j => exact xr_in (xq_3 (g := Instr.invokespecial) (op := 183) rfl rfl h)
  | invokestatic j => exact xr_in (xq_3 (g := Instr.invokestatic) (op := 184) rfl rfl h)
  | new j => exact xr_in (xq_3 (g := Instr.new) (op := 187) rfl rfl h)
  | anewarray j => exact xr_in (xq_3 (g := Instr.anewarray) (op := 189) rfl rfl h)
  | goto j => exact xr_in (xq_j (g := Instr.goto) (op := 167) rfl rfl h)
  | ifnull j => exact xr_in (xq_j (g := Instr.ifnull) (op := 198) rfl rfl h)
  | ifnonnull j => exact xr_in (xq_j (g := Instr.ifnonnull) (op := 199) rfl rfl h)
  | sipush j => exact xr_in (xq_j (g := Instr.sipush) (op := 17) rfl rfl h)
  | ifCond c j =>
    cases c with
    | eq => exact xr_in (xq_j (g := Instr.ifCond .eq) (op := 153) rfl rfl h)
    | ne => exact xr_in (xq_j (g := Instr.ifCond .ne) (op := 154) rfl rfl h)
    | lt => exact xr_in (xq_j (g := Instr.ifCond .lt) (op := 155) rfl rfl h)
    | ge => exact xr_in (xq_j (g := Instr.ifCond .ge) (op := 156) rfl rfl h)
    | gt => exact xr_in (xq_j (g := Instr.ifCond .gt) (op := 157) rfl rfl h)
    | le => exact xr_in (xq_j (g := Instr.ifCond .le) (op := 158) rfl rfl h)
  | if_icmp c j =>
    cases c with
    | eq => exact xr_in (xq_j (g := Instr.if_icmp .eq) (op := 159) rfl rfl h)
    | ne => exact xr_in (xq_j (g := Instr.if_icmp .ne) (op := 160) rfl rfl h)
    | lt => exact xr_in (xq_j (g := Instr.if_icmp .lt) (op := 161) rfl rfl h)
    | ge => exact xr_in (xq_j (g := Instr.if_icmp .ge) (op := 162) rfl rfl h)
    | gt => exact xr_in (xq_j (g := Instr.if_icmp .gt) (op := 163) rfl rfl h)
    | le => exact xr_in (xq_j (g := Instr.if_icmp .le) (op := 164) rfl rfl h)
  | bipush v => exact xr_in (xq_s (g := Instr.bipush) (op := 16) rfl rfl h)
  | iinc j v => exact xr_in (xq_i rfl rfl h)
  | _ => exact absurd h Bool.false_ne_true
/-- a table's positions and the bytes from there on, side by side -/
def xgo (chk : List UInt8 → Nat → XE → Bool) (t : List (List (Option XE))) : Nat → Nat → List UInt8 → Bool
  | 0, _, _ => true
  | n + 1, pc, l => (match xfetch t pc with
    | none => true
    | some q => chk l pc q) && (match l with
    | [] => xgo chk t n (pc + 1) []
    | _ :: r => xgo chk t n (pc + 1) r)
theorem xgo_ok {chk : List UInt8 → Nat → XE → Bool} {t : List (List (Option XE))} {L : List UInt8} : ∀ (n pc : Nat) (l : List UInt8), l = L.drop pc → xgo chk t n pc l = true → ∀ k, k < n → ∀ q, xfetch t (pc + k) = some q → chk (L.drop (pc + k)) (pc + k) q = true
  | 0, _, _, _, _, _, hk, _, _ => absurd hk (Nat.not_lt_zero _)
  | n + 1, pc, l, hl, h, k, hk, q, hq => by
    unfold xgo at h
    rw [Bool.and_eq_true] at h
    cases k with
    | zero =>
      have h1 := h.1
      rw [Nat.add_zero] at hq ⊢
      rw [hq] at h1
      rw [← hl]
      exact h1
    | succ k =>
      have e : pc + (k + 1) = pc + 1 + k := by omega
      rw [e] at hq ⊢
      refine xgo_ok n (pc + 1) (L.drop (pc + 1)) rfl ?_ k (by omega) q hq
      have h2 := h.2
      have e2 : L.drop (pc + 1) = l.tail := by rw [hl, List.tail_drop]
      rw [e2]
      cases l with
      | nil => exact h2
      | cons b r => exact h2
end XF
section XF2
variable (fin : Nat → Nat → Bool) (FL MV MS MI OI CL AL KI KL GS : List (Nat × Nat × Nat × Nat × Int))
def xrest (M : XM) (pc a b : Nat) (z : Int) (i : Instr) : Bool := (match i with
  | .iconst v => decide ((Int32.ofInt v).toInt = z)
  | .bipush v => decide (((Int8.ofInt v).toInt32).toInt = z)
  | .sipush v => decide (((Int16.ofInt v).toInt32).toInt = z)
  | .ldc j => KI.contains (xm_i M, j, 0, 0, z)
  | .ldc_w j => KI.contains (xm_i M, j, 0, 0, z)
  | .lconst v => decide ((Int64.ofNat (v : Nat)).toInt = z)
  | .ldc2_w j => KL.contains (xm_i M, j, 0, 0, z)
  | .iinc _ g => decide ((Int32.ofInt g).toInt = z)
  | .ifCond _ o => decide ((pc : Int) + o = (a : Int))
  | .if_icmp _ o => decide ((pc : Int) + o = (a : Int))
  | .ifnull o => decide ((pc : Int) + o = (a : Int))
  | .ifnonnull o => decide ((pc : Int) + o = (a : Int))
  | .goto o => decide ((pc : Int) + o = (a : Int))
  | .newarray t => decide ((t = .int ∧ a = 0) ∨ (t = .long ∧ a = 1) ∨ (t = .boolean ∧ a = 2))
  | .anewarray j => AL.contains (xm_i M, j, a, 0, 0)
  | .new j => CL.contains (xm_i M, j, a, 0, 0)
  | .getfield j => FL.contains (xm_i M, j, a, b, 0)
  | .putfield j => FL.contains (xm_i M, j, a, b, 0) && (!fin a b || (decide ((xm_y M).name = "<init>") && xm_i M == a))
  | .getstatic j => GS.contains (xm_i M, j, a, 0, 0)
  | .invokevirtual j => MV.contains (xm_i M, j, a, b, 0)
  | .invokestatic j => MS.contains (xm_i M, j, a, b, 0)
  | .invokespecial j => if a = 9999 then OI.contains (xm_i M, j, 0, 0, 0) else MI.contains (xm_i M, j, a, b, 0)
  | .ireturn => decide (xm_r M = some .int ∨ xm_r M = some .boolean)
  | .lreturn => decide (xm_r M = some .long)
  | .areturn => (match xm_r M with
    | some (.object _) => true
    | _ => false)
  | .return_ => decide (xm_r M = none)
  | _ => true)
def xfast (M : XM) (l : List UInt8) (pc : Nat) (q : XE) : Bool := (xfd l q.1 || xslow (xm_c M) pc q.1) && xrest fin FL MV MS MI OI CL AL KI KL GS M pc q.2.1 q.2.2.1 q.2.2.2 q.1
def xtabf (M : XM) : Bool := xgo (xfast fin FL MV MS MI OI CL AL KI KL GS M) (xm_t M) (16 * (xm_t M).length) 0 (xm_c M).data.toList
end XF2
section XF3
variable {fin : Nat → Nat → Bool} {FL MV MS MI OI CL AL KI KL GS : List (Nat × Nat × Nat × Nat × Int)}
set_option maxHeartbeats 4000000 in
theorem xokb_cut (M : XM) (pc a b : Nat) (z : Int) (i : Instr) : xokb fin FL MV MS MI OI CL AL KI KL GS M pc a b z i = (xslow (xm_c M) pc i && xrest fin FL MV MS MI OI CL AL KI KL GS M pc a b z i) := by
  first
  | rfl
  | (cases i <;> rfl)
theorem xfast_ok {M : XM} {pc : Nat} {q : XE} (h : xfast fin FL MV MS MI OI CL AL KI KL GS M ((xm_c M).data.toList.drop pc) pc q = true) : xokb fin FL MV MS MI OI CL AL KI KL GS M pc q.2.1 q.2.2.1 q.2.2.2 q.1 = true := by
  unfold xfast at h
  rw [Bool.and_eq_true, Bool.or_eq_true] at h
  rw [xokb_cut, Bool.and_eq_true]
  exact ⟨h.1.elim (fun h => xfd_ok h) (fun h => h), h.2⟩
theorem xtabf_ok {M : XM} (h : xtabf fin FL MV MS MI OI CL AL KI KL GS M = true) {pc : Nat} {q : XE} (hq : xfetch (xm_t M) pc = some q) : xokb fin FL MV MS MI OI CL AL KI KL GS M pc q.2.1 q.2.2.1 q.2.2.2 q.1 = true := by
  have h1 := xgo_ok (L := (xm_c M).data.toList) _ 0 _ rfl h pc (x_fetch_lt hq) q (by rw [Nat.zero_add]; exact hq)
  rw [Nat.zero_add] at h1
  exact xfast_ok h1
end XF3
