-- == 49c.enc.lean.txt
section
/-! BYTES OF ONE INSTRUCTION: decoded by what stands there -/
def bsAt (b : ByteArray) : Nat → List Nat → Prop
  | _, [] => True
  | pc, v :: r => (∃ h : pc < b.size, b[pc].toNat = v) ∧ bsAt b (pc + 1) r
theorem u1_at {b : ByteArray} {pc v : Nat} (h : ∃ h : pc < b.size, b[pc].toNat = v) : (Jvm.ClassFile.Reader.u1 : Jvm.ClassFile.Decoder Nat) b pc = .ok (v, pc + 1) := by
  obtain ⟨h1, h2⟩ := h
  have e : (Jvm.ClassFile.Reader.u1 : Jvm.ClassFile.Decoder Nat) b pc = (if h : pc < b.size then ((set (pc + 1) : Jvm.ClassFile.Decoder PUnit) >>= fun _ => pure b[pc].toNat) else (throw (Jvm.ClassFile.HasTruncated.truncated pc) : Jvm.ClassFile.Decoder Nat)) b pc := rfl
  rw [e, dif_pos h1, h2]
  rfl
theorem bnd_at {α β : Type} {x : Jvm.ClassFile.Decoder α} {F : α → Jvm.ClassFile.Decoder β} {b : ByteArray} {pc n : Nat} {v : α} (h : x b pc = .ok (v, n)) : (x >>= F) b pc = F v b n := by
  show Except.bind (x b pc) (fun q => F q.1 b q.2) = _
  rw [h]
  rfl
theorem map_at {α β : Type} {x : Jvm.ClassFile.Decoder α} {f : α → β} {b : ByteArray} {pc n : Nat} {v : α} (h : x b pc = .ok (v, n)) : (f <$> x : Jvm.ClassFile.Decoder β) b pc = .ok (f v, n) := by
  show Except.bind (x b pc) (fun q => .ok (f q.1, q.2)) = _
  rw [h]
  rfl
theorem u2_at {b : ByteArray} {pc v w : Nat} {r : List Nat} (h : bsAt b pc (v :: w :: r)) : (Jvm.ClassFile.Reader.u2 : Jvm.ClassFile.Decoder Nat) b pc = .ok (v * 256 + w, pc + 2) := by
  show ((Jvm.ClassFile.Reader.u1 >>= fun hi => Jvm.ClassFile.Reader.u1 >>= fun lo => pure (hi * 256 + lo)) : Jvm.ClassFile.Decoder Nat) b pc = _
  rw [bnd_at (u1_at h.1), bnd_at (u1_at h.2.1)]
  rfl
theorem s1_at {b : ByteArray} {pc v : Nat} {r : List Nat} (h : bsAt b pc (v :: r)) : (Jvm.ClassFile.Reader.s1 : Jvm.ClassFile.Decoder Int) b pc = .ok (Jvm.ClassFile.Reader.signed 8 v, pc + 1) := map_at (u1_at h.1)
theorem s2_at {b : ByteArray} {pc v w : Nat} {r : List Nat} (h : bsAt b pc (v :: w :: r)) : (Jvm.ClassFile.Reader.s2 : Jvm.ClassFile.Decoder Int) b pc = .ok (Jvm.ClassFile.Reader.signed 16 (v * 256 + w), pc + 2) := map_at (u2_at h)
theorem dec_at {b : ByteArray} {pc v : Nat} {r : List Nat} {F : Nat → Jvm.ClassFile.Decoder Instr} (hF : Jvm.ClassFile.Decoder.instr pc = (Jvm.ClassFile.Reader.u1 >>= F)) (h : bsAt b pc (v :: r)) {i : Instr} {n : Nat} (hr : F v b (pc + 1) = .ok (i, pc + n)) : decode b pc = .ok (i, n) := by
  show Except.bind (Jvm.ClassFile.Decoder.instr pc b pc) (fun q => .ok (q.1, q.2 - pc)) = _
  rw [hF, bnd_at (u1_at h.1), hr]
  show (Except.ok (i, pc + n - pc) : Except Jvm.ClassFile.DecodeError (Instr × Nat)) = _
  rw [Nat.add_sub_cancel_left]
theorem q0 {i : Instr} {b : ByteArray} {pc : Nat} : (pure i : Jvm.ClassFile.Decoder Instr) b (pc + 1) = .ok (i, pc + 1) := rfl
theorem q1 {G : Nat → Instr} {b : ByteArray} {pc v : Nat} {r : List Nat} (h : bsAt b (pc + 1) (v :: r)) : ((Jvm.ClassFile.Reader.u1 >>= fun a => pure (G a)) : Jvm.ClassFile.Decoder Instr) b (pc + 1) = .ok (G v, pc + 2) := by
  rw [bnd_at (u1_at h.1)]
  rfl
theorem q2 {G : Nat → Instr} {b : ByteArray} {pc v w : Nat} {r : List Nat} (h : bsAt b (pc + 1) (v :: w :: r)) : ((Jvm.ClassFile.Reader.u2 >>= fun a => pure (G a)) : Jvm.ClassFile.Decoder Instr) b (pc + 1) = .ok (G (v * 256 + w), pc + 3) := by
  rw [bnd_at (u2_at h)]
  rfl
theorem qs1 {G : Int → Instr} {b : ByteArray} {pc v : Nat} {r : List Nat} (h : bsAt b (pc + 1) (v :: r)) : ((Jvm.ClassFile.Reader.s1 >>= fun a => pure (G a)) : Jvm.ClassFile.Decoder Instr) b (pc + 1) = .ok (G (Jvm.ClassFile.Reader.signed 8 v), pc + 2) := by
  rw [bnd_at (s1_at h)]
  rfl
theorem qs2 {G : Int → Instr} {b : ByteArray} {pc v w : Nat} {r : List Nat} (h : bsAt b (pc + 1) (v :: w :: r)) : ((Jvm.ClassFile.Reader.s2 >>= fun a => pure (G a)) : Jvm.ClassFile.Decoder Instr) b (pc + 1) = .ok (G (Jvm.ClassFile.Reader.signed 16 (v * 256 + w)), pc + 3) := by
  rw [bnd_at (s2_at h)]
  rfl
theorem q11 {G : Nat → Int → Instr} {b : ByteArray} {pc v w : Nat} {r : List Nat} (h : bsAt b (pc + 1) (v :: w :: r)) : ((Jvm.ClassFile.Reader.u1 >>= fun a => Jvm.ClassFile.Reader.s1 >>= fun c => pure (G a c)) : Jvm.ClassFile.Decoder Instr) b (pc + 1) = .ok (G v (Jvm.ClassFile.Reader.signed 8 w), pc + 3) := by
  rw [bnd_at (u1_at h.1), bnd_at (s1_at h.2)]
  rfl
theorem sg16 {z : Int} (h : -32768 ≤ z ∧ z ≤ 32767) : Jvm.ClassFile.Reader.signed 16 ((z % 65536).toNat / 256 * 256 + (z % 65536).toNat % 256) = z := by
  unfold Jvm.ClassFile.Reader.signed
  simp only [Nat.reduceSub, Nat.reducePow]
  split <;> omega
theorem sg8 {z : Int} (h : -128 ≤ z ∧ z ≤ 127) : Jvm.ClassFile.Reader.signed 8 (z % 256).toNat = z := by
  unfold Jvm.ClassFile.Reader.signed
  simp only [Nat.reduceSub, Nat.reducePow]
  split <;> omega
theorem d256 (n : Nat) : n / 256 * 256 + n % 256 = n := by omega
def condN : Jvm.ClassFile.Cond → Nat
  | .eq => 0
  | .ne => 1
  | .lt => 2
  | .ge => 3
  | .gt => 4
  | .le => 5
def s2b (z : Int) : List Nat := [(z % 65536).toNat / 256, (z % 65536).toNat % 256]
def in16 (z : Int) : Prop := -32768 ≤ z ∧ z ≤ 32767
/-- the bytes of an instruction; none: not told here -/
def encT : Instr → List Nat
  | .nop => [0]
  | .aconst_null => [1]
  | .iaload => [46]
  | .laload => [47]
  | .aaload => [50]
  | .baload => [51]
  | .iastore => [79]
  | .lastore => [80]
  | .aastore => [83]
  | .pop => [87]
  | .dup => [89]
  | .dup_x1 => [90]
  | .dup_x2 => [91]
  | .dup2 => [92]
  | .iadd => [96]
  | .ladd => [97]
  | .isub => [100]
  | .lsub => [101]
  | .imul => [104]
  | .lmul => [105]
  | .idiv => [108]
  | .ldiv => [109]
  | .irem => [112]
  | .lrem => [113]
  | .ineg => [116]
  | .lneg => [117]
  | .ishl => [120]
  | .lshl => [121]
  | .ishr => [122]
  | .lshr => [123]
  | .iushr => [124]
  | .lushr => [125]
  | .iand => [126]
  | .land => [127]
  | .ior => [128]
  | .lor => [129]
  | .ixor => [130]
  | .lxor => [131]
  | .i2l => [133]
  | .l2i => [136]
  | .i2b => [145]
  | .i2c => [146]
  | .i2s => [147]
  | .lcmp => [148]
  | .ireturn => [172]
  | .lreturn => [173]
  | .areturn => [176]
  | .return_ => [177]
  | .arraylength => [190]
  | .athrow => [191]
  | .ldc n => [18, n]
  | .iload n => [21, n]
  | .lload n => [22, n]
  | .aload n => [25, n]
  | .istore n => [54, n]
  | .lstore n => [55, n]
  | .astore n => [58, n]
  | .ldc_w n => [19, n / 256, n % 256]
  | .ldc2_w n => [20, n / 256, n % 256]
  | .getstatic n => [178, n / 256, n % 256]
  | .putstatic n => [179, n / 256, n % 256]
  | .getfield n => [180, n / 256, n % 256]
  | .putfield n => [181, n / 256, n % 256]
  | .invokevirtual n => [182, n / 256, n % 256]
  | .invokespecial n => [183, n / 256, n % 256]
  | .invokestatic n => [184, n / 256, n % 256]
  | .new n => [187, n / 256, n % 256]
  | .anewarray n => [189, n / 256, n % 256]
  | .iload_n n => [26 + n.val]
  | .lload_n n => [30 + n.val]
  | .aload_n n => [42 + n.val]
  | .istore_n n => [59 + n.val]
  | .lstore_n n => [63 + n.val]
  | .astore_n n => [75 + n.val]
  | .lconst n => [9 + n.val]
  | .iconst z => if -1 ≤ z ∧ z ≤ 5 then [(z + 3).toNat] else []
  | .bipush z => if -128 ≤ z ∧ z ≤ 127 then [16, (z % 256).toNat] else []
  | .sipush z => if -32768 ≤ z ∧ z ≤ 32767 then 17 :: s2b z else []
  | .goto z => if -32768 ≤ z ∧ z ≤ 32767 then 167 :: s2b z else []
  | .ifnull z => if -32768 ≤ z ∧ z ≤ 32767 then 198 :: s2b z else []
  | .ifnonnull z => if -32768 ≤ z ∧ z ≤ 32767 then 199 :: s2b z else []
  | .iinc n z => if -128 ≤ z ∧ z ≤ 127 then [132, n, (z % 256).toNat] else []
  | .ifCond c z => if -32768 ≤ z ∧ z ≤ 32767 then (153 + condN c) :: s2b z else []
  | .if_icmp c z => if -32768 ≤ z ∧ z ≤ 32767 then (159 + condN c) :: s2b z else []
  | _ => []
theorem enc_ok {b : ByteArray} {pc : Nat} {i : Instr} (he : encT i ≠ []) (h : bsAt b pc (encT i)) : decode b pc = .ok (i, (encT i).length) := by
  cases i
  case nop => exact dec_at rfl (show bsAt b pc [0] from h) q0
  case aconst_null => exact dec_at rfl (show bsAt b pc [1] from h) q0
  case iaload => exact dec_at rfl (show bsAt b pc [46] from h) q0
  case laload => exact dec_at rfl (show bsAt b pc [47] from h) q0
  case aaload => exact dec_at rfl (show bsAt b pc [50] from h) q0
  case baload => exact dec_at rfl (show bsAt b pc [51] from h) q0
  case iastore => exact dec_at rfl (show bsAt b pc [79] from h) q0
  case lastore => exact dec_at rfl (show bsAt b pc [80] from h) q0
  case aastore => exact dec_at rfl (show bsAt b pc [83] from h) q0
  case pop => exact dec_at rfl (show bsAt b pc [87] from h) q0
  case dup => exact dec_at rfl (show bsAt b pc [89] from h) q0
  case dup_x1 => exact dec_at rfl (show bsAt b pc [90] from h) q0
  case dup_x2 => exact dec_at rfl (show bsAt b pc [91] from h) q0
  case dup2 => exact dec_at rfl (show bsAt b pc [92] from h) q0
  case iadd => exact dec_at rfl (show bsAt b pc [96] from h) q0
  case ladd => exact dec_at rfl (show bsAt b pc [97] from h) q0
  case isub => exact dec_at rfl (show bsAt b pc [100] from h) q0
  case lsub => exact dec_at rfl (show bsAt b pc [101] from h) q0
  case imul => exact dec_at rfl (show bsAt b pc [104] from h) q0
  case lmul => exact dec_at rfl (show bsAt b pc [105] from h) q0
  case idiv => exact dec_at rfl (show bsAt b pc [108] from h) q0
  case ldiv => exact dec_at rfl (show bsAt b pc [109] from h) q0
  case irem => exact dec_at rfl (show bsAt b pc [112] from h) q0
  case lrem => exact dec_at rfl (show bsAt b pc [113] from h) q0
  case ineg => exact dec_at rfl (show bsAt b pc [116] from h) q0
  case lneg => exact dec_at rfl (show bsAt b pc [117] from h) q0
  case ishl => exact dec_at rfl (show bsAt b pc [120] from h) q0
  case lshl => exact dec_at rfl (show bsAt b pc [121] from h) q0
  case ishr => exact dec_at rfl (show bsAt b pc [122] from h) q0
  case lshr => exact dec_at rfl (show bsAt b pc [123] from h) q0
  case iushr => exact dec_at rfl (show bsAt b pc [124] from h) q0
  case lushr => exact dec_at rfl (show bsAt b pc [125] from h) q0
  case iand => exact dec_at rfl (show bsAt b pc [126] from h) q0
  case land => exact dec_at rfl (show bsAt b pc [127] from h) q0
  case ior => exact dec_at rfl (show bsAt b pc [128] from h) q0
  case lor => exact dec_at rfl (show bsAt b pc [129] from h) q0
  case ixor => exact dec_at rfl (show bsAt b pc [130] from h) q0
  case lxor => exact dec_at rfl (show bsAt b pc [131] from h) q0
  case i2l => exact dec_at rfl (show bsAt b pc [133] from h) q0
  case l2i => exact dec_at rfl (show bsAt b pc [136] from h) q0
  case i2b => exact dec_at rfl (show bsAt b pc [145] from h) q0
  case i2c => exact dec_at rfl (show bsAt b pc [146] from h) q0
  case i2s => exact dec_at rfl (show bsAt b pc [147] from h) q0
  case lcmp => exact dec_at rfl (show bsAt b pc [148] from h) q0
  case ireturn => exact dec_at rfl (show bsAt b pc [172] from h) q0
  case lreturn => exact dec_at rfl (show bsAt b pc [173] from h) q0
  case areturn => exact dec_at rfl (show bsAt b pc [176] from h) q0
  case return_ => exact dec_at rfl (show bsAt b pc [177] from h) q0
  case arraylength => exact dec_at rfl (show bsAt b pc [190] from h) q0
  case athrow => exact dec_at rfl (show bsAt b pc [191] from h) q0
  case ldc n => exact dec_at rfl (show bsAt b pc [18, n] from h) (q1 (G := .ldc) (show bsAt b pc [18, n] from h).2)
  case iload n => exact dec_at rfl (show bsAt b pc [21, n] from h) (q1 (G := .iload) (show bsAt b pc [21, n] from h).2)
  case lload n => exact dec_at rfl (show bsAt b pc [22, n] from h) (q1 (G := .lload) (show bsAt b pc [22, n] from h).2)
  case aload n => exact dec_at rfl (show bsAt b pc [25, n] from h) (q1 (G := .aload) (show bsAt b pc [25, n] from h).2)
  case istore n => exact dec_at rfl (show bsAt b pc [54, n] from h) (q1 (G := .istore) (show bsAt b pc [54, n] from h).2)
  case lstore n => exact dec_at rfl (show bsAt b pc [55, n] from h) (q1 (G := .lstore) (show bsAt b pc [55, n] from h).2)
  case astore n => exact dec_at rfl (show bsAt b pc [58, n] from h) (q1 (G := .astore) (show bsAt b pc [58, n] from h).2)
  case ldc_w n =>
    have h : bsAt b pc [19, n / 256, n % 256] := h
    have e := q2 (G := .ldc_w) h.2
    rw [d256] at e
    exact dec_at rfl h e
  case ldc2_w n =>
    have h : bsAt b pc [20, n / 256, n % 256] := h
    have e := q2 (G := .ldc2_w) h.2
    rw [d256] at e
    exact dec_at rfl h e
  case getstatic n =>
    have h : bsAt b pc [178, n / 256, n % 256] := h
    have e := q2 (G := .getstatic) h.2
    rw [d256] at e
    exact dec_at rfl h e
  case putstatic n =>
    have h : bsAt b pc [179, n / 256, n % 256] := h
    have e := q2 (G := .putstatic) h.2
    rw [d256] at e
    exact dec_at rfl h e
  case getfield n =>
    have h : bsAt b pc [180, n / 256, n % 256] := h
    have e := q2 (G := .getfield) h.2
    rw [d256] at e
    exact dec_at rfl h e
  case putfield n =>
    have h : bsAt b pc [181, n / 256, n % 256] := h
    have e := q2 (G := .putfield) h.2
    rw [d256] at e
    exact dec_at rfl h e
  case invokevirtual n =>
    have h : bsAt b pc [182, n / 256, n % 256] := h
    have e := q2 (G := .invokevirtual) h.2
    rw [d256] at e
    exact dec_at rfl h e
  case invokespecial n =>
    have h : bsAt b pc [183, n / 256, n % 256] := h
    have e := q2 (G := .invokespecial) h.2
    rw [d256] at e
    exact dec_at rfl h e
  case invokestatic n =>
    have h : bsAt b pc [184, n / 256, n % 256] := h
    have e := q2 (G := .invokestatic) h.2
    rw [d256] at e
    exact dec_at rfl h e
  case new n =>
    have h : bsAt b pc [187, n / 256, n % 256] := h
    have e := q2 (G := .new) h.2
    rw [d256] at e
    exact dec_at rfl h e
  case anewarray n =>
    have h : bsAt b pc [189, n / 256, n % 256] := h
    have e := q2 (G := .anewarray) h.2
    rw [d256] at e
    exact dec_at rfl h e
  case iload_n n =>
    match n, he, h with
    | 0, _, h => exact dec_at rfl (show bsAt b pc [26] from h) q0
    | 1, _, h => exact dec_at rfl (show bsAt b pc [27] from h) q0
    | 2, _, h => exact dec_at rfl (show bsAt b pc [28] from h) q0
    | 3, _, h => exact dec_at rfl (show bsAt b pc [29] from h) q0
  case lload_n n =>
    match n, he, h with
    | 0, _, h => exact dec_at rfl (show bsAt b pc [30] from h) q0
    | 1, _, h => exact dec_at rfl (show bsAt b pc [31] from h) q0
    | 2, _, h => exact dec_at rfl (show bsAt b pc [32] from h) q0
    | 3, _, h => exact dec_at rfl (show bsAt b pc [33] from h) q0
  case aload_n n =>
    match n, he, h with
    | 0, _, h => exact dec_at rfl (show bsAt b pc [42] from h) q0
    | 1, _, h => exact dec_at rfl (show bsAt b pc [43] from h) q0
    | 2, _, h => exact dec_at rfl (show bsAt b pc [44] from h) q0
    | 3, _, h => exact dec_at rfl (show bsAt b pc [45] from h) q0
  case istore_n n =>
    match n, he, h with
    | 0, _, h => exact dec_at rfl (show bsAt b pc [59] from h) q0
    | 1, _, h => exact dec_at rfl (show bsAt b pc [60] from h) q0
    | 2, _, h => exact dec_at rfl (show bsAt b pc [61] from h) q0
    | 3, _, h => exact dec_at rfl (show bsAt b pc [62] from h) q0
  case lstore_n n =>
    match n, he, h with
    | 0, _, h => exact dec_at rfl (show bsAt b pc [63] from h) q0
    | 1, _, h => exact dec_at rfl (show bsAt b pc [64] from h) q0
    | 2, _, h => exact dec_at rfl (show bsAt b pc [65] from h) q0
    | 3, _, h => exact dec_at rfl (show bsAt b pc [66] from h) q0
  case astore_n n =>
    match n, he, h with
    | 0, _, h => exact dec_at rfl (show bsAt b pc [75] from h) q0
    | 1, _, h => exact dec_at rfl (show bsAt b pc [76] from h) q0
    | 2, _, h => exact dec_at rfl (show bsAt b pc [77] from h) q0
    | 3, _, h => exact dec_at rfl (show bsAt b pc [78] from h) q0
  case lconst n =>
    match n, he, h with
    | 0, _, h => exact dec_at rfl (show bsAt b pc [9] from h) q0
    | 1, _, h => exact dec_at rfl (show bsAt b pc [10] from h) q0
  case iconst z =>
    by_cases e : -1 ≤ z ∧ z ≤ 5
    · have hz : z = -1 ∨ z = 0 ∨ z = 1 ∨ z = 2 ∨ z = 3 ∨ z = 4 ∨ z = 5 := by omega
      rcases hz with rfl | rfl | rfl | rfl | rfl | rfl | rfl
      · exact dec_at rfl (show bsAt b pc [2] from h) q0
      · exact dec_at rfl (show bsAt b pc [3] from h) q0
      · exact dec_at rfl (show bsAt b pc [4] from h) q0
      · exact dec_at rfl (show bsAt b pc [5] from h) q0
      · exact dec_at rfl (show bsAt b pc [6] from h) q0
      · exact dec_at rfl (show bsAt b pc [7] from h) q0
      · exact dec_at rfl (show bsAt b pc [8] from h) q0
    · exact absurd (if_neg e) he
  case bipush z =>
    by_cases e : -128 ≤ z ∧ z ≤ 127
    · have e2 : encT (.bipush z) = [16, (z % 256).toNat] := if_pos e
      rw [e2] at h ⊢
      have q := qs1 (G := .bipush) h.2
      rw [sg8 e] at q
      exact dec_at rfl h q
    · exact absurd (if_neg e) he
  case iinc n z =>
    by_cases e : -128 ≤ z ∧ z ≤ 127
    · have e2 : encT (.iinc n z) = [132, n, (z % 256).toNat] := if_pos e
      rw [e2] at h ⊢
      have q := q11 (G := .iinc) h.2
      rw [sg8 e] at q
      exact dec_at rfl h q
    · exact absurd (if_neg e) he
  case sipush z =>
    by_cases e : -32768 ≤ z ∧ z ≤ 32767
    · have e2 : encT (.sipush z) = 17 :: s2b z := if_pos e
      rw [e2] at h ⊢
      have q := qs2 (G := .sipush) h.2
      rw [sg16 e] at q
      exact dec_at rfl h q
    · exact absurd (if_neg e) he
  case goto z =>
    by_cases e : -32768 ≤ z ∧ z ≤ 32767
    · have e2 : encT (.goto z) = 167 :: s2b z := if_pos e
      rw [e2] at h ⊢
      have q := qs2 (G := .goto) h.2
      rw [sg16 e] at q
      exact dec_at rfl h q
    · exact absurd (if_neg e) he
  case ifnull z =>
    by_cases e : -32768 ≤ z ∧ z ≤ 32767
    · have e2 : encT (.ifnull z) = 198 :: s2b z := if_pos e
      rw [e2] at h ⊢
      have q := qs2 (G := .ifnull) h.2
      rw [sg16 e] at q
      exact dec_at rfl h q
    · exact absurd (if_neg e) he
  case ifnonnull z =>
    by_cases e : -32768 ≤ z ∧ z ≤ 32767
    · have e2 : encT (.ifnonnull z) = 199 :: s2b z := if_pos e
      rw [e2] at h ⊢
      have q := qs2 (G := .ifnonnull) h.2
      rw [sg16 e] at q
      exact dec_at rfl h q
    · exact absurd (if_neg e) he
  case ifCond c z =>
    by_cases e : -32768 ≤ z ∧ z ≤ 32767
    · have e2 : encT (.ifCond c z) = (153 + condN c) :: s2b z := if_pos e
      rw [e2] at h ⊢
      have q := qs2 (G := .ifCond c) h.2
      rw [sg16 e] at q
      cases c
      · exact dec_at (v := 153) rfl h q
      · exact dec_at (v := 154) rfl h q
      · exact dec_at (v := 155) rfl h q
      · exact dec_at (v := 156) rfl h q
      · exact dec_at (v := 157) rfl h q
      · exact dec_at (v := 158) rfl h q
    · exact absurd (if_neg e) he
  case if_icmp c z =>
    by_cases e : -32768 ≤ z ∧ z ≤ 32767
    · have e2 : encT (.if_icmp c z) = (159 + condN c) :: s2b z := if_pos e
      rw [e2] at h ⊢
      have q := qs2 (G := .if_icmp c) h.2
      rw [sg16 e] at q
      cases c
      · exact dec_at (v := 159) rfl h q
      · exact dec_at (v := 160) rfl h q
      · exact dec_at (v := 161) rfl h q
      · exact dec_at (v := 162) rfl h q
      · exact dec_at (v := 163) rfl h q
      · exact dec_at (v := 164) rfl h q
    · exact absurd (if_neg e) he
  all_goals exact absurd rfl he
def bsP : List UInt8 → List Nat → Bool
  | _, [] => true
  | x :: xs, v :: vs => x.toNat == v && bsP xs vs
  | [], _ :: _ => false
theorem bsP_ok {b : ByteArray} : ∀ {vs : List Nat} {s : List UInt8} {pc : Nat}, s = b.data.toList.drop pc → bsP s vs = true → bsAt b pc vs
  | [], _, _, _, _ => trivial
  | v :: vs, [], pc, _, h => by cases h
  | v :: vs, x :: xs, pc, hs, h => by
    unfold bsP at h
    rw [Bool.and_eq_true, beq_iff_eq] at h
    have hlt : pc < b.data.toList.length := by
      rcases Nat.lt_or_ge pc b.data.toList.length with h1 | h1
      · exact h1
      · rw [List.drop_eq_nil_of_le h1] at hs
        cases hs
    rw [List.drop_eq_getElem_cons hlt] at hs
    injection hs with hx hxs
    refine ⟨⟨by simpa using hlt, ?_⟩, bsP_ok hxs h.2⟩
    rw [← h.1, hx]
    rfl
def okE (k : Nat) : List UInt8 → Nat → List Tok → Bool
  | _, _, [] => true
  | s, pc, t :: ts => ((if (encT t.1).isEmpty = true then okD k pc t else bsP s (encT t.1) && t.2.1 == (encT t.1).length) && okT k t) && okE k (s.drop t.2.1) (pc + t.2.1) ts
theorem okE_ok {k : Nat} : ∀ {ts : List Tok} {s : List UInt8} {pc : Nat}, s = (mcode k).data.toList.drop pc → okE k s pc ts = true → okL k pc ts = true
  | [], _, _, _, _ => rfl
  | t :: ts, s, pc, hs, h => by
    unfold okE at h
    unfold okL
    simp only [Bool.and_eq_true] at h ⊢
    obtain ⟨⟨h1, h2⟩, h3⟩ := h
    refine ⟨⟨?_, h2⟩, okE_ok (by rw [hs, List.drop_drop]) h3⟩
    split at h1
    · exact h1
    · rename_i hne
      rw [Bool.and_eq_true, beq_iff_eq] at h1
      have hd := enc_ok (fun e => hne (by rw [e]; rfl)) (bsP_ok hs h1.1)
      unfold okD
      rw [hd]
      exact decide_eq_true ⟨rfl, h1.2.symm⟩
end
-- == 49d.cut.lean.txt
section
/-! THE LAW'S START, CUT BEHIND THE CLASS'S CONSTRUCTOR -/
def lwE0 (F : Nat) (G : aG) (cs : List aCt) (cells : Nat → Nat) (sp : Nat → Nat → aS → Option (Fm × List Int)) (T8 : aS) : Bool := okP ([], [(2, fcon 700)], lwD 0 [] ([], [], 0)) && arun (G, none, true, cs, [(8, T8, fcon 0)], 8, [], cells, none, sp) F 40 [] 0 0 212 0 0 (tk 0) (aargs 0 [(2, fcon 700)], [], lwD 0 [] ([], [], 0))
def lwE1 (F : Nat) (G : aG) (cs : List aCt) (cells : Nat → Nat) (sp : Nat → Nat → aS → Option (Fm × List Int)) (R : REnv) (r : List Fm × Ca × Nat) (T8 : aS) : Bool := decide (8 ≤ (eC T8.2.2).length) && (match tkF 8 0 (tk 0) with
  | some ts => arun (G, none, true, cs, [(18, lwS (fid 1) (lwD 3072 R r), fcon 0)], 8, [], cells, none, sp) F 40 [] 0 0 212 1 8 ts T8
  | none => false)
theorem law_of2t {G : aG} {F : Nat} {cs : List aCt} {cells : Nat → Nat} {sp : Nat → Nat → aS → Option (Fm × List Int)} {R : REnv} {r : List Fm × Ca × Nat} {hd : List (Nat × aS × Fm)} (hOK : lwOK r = true) (hT : ∀ k, okL k 0 (tk k) = true) (hM : ∀ k, kGood k = true → okM k = true) (hC : ∀ g l, ∀ z ∈ cs, Keeps g l G z) {T8 : aS} (hE0 : lwE0 F G cs cells sp T8 = true) (hE1 : lwE1 F G cs cells sp R r T8 = true) (hh : (18, lwS (fid 1) (lwD 3072 R r), fcon 3) ∈ hd) (hH : ∀ H ∈ hd, lwB F G cs cells sp R r hd H = true) : LawWP := by
  intro g l hL
  unfold lwOK at hOK
  simp only [Bool.and_eq_true, beq_iff_eq] at hOK
  obtain ⟨o1, o2, o3⟩ := hOK
  have hpw : PW (PofW G none true) := pwB_ok (G := G) (w := none) (b := true) rfl
  have hpost : ∀ p ∈ lwO, ∀ (ρ : Nat → Int) (h : bH), evR ρ p.2 = some (0, 1) := by
    intro p hp ρ h
    cases List.mem_singleton.mp hp
    show some ((0 : Nat), ev ρ (fcon 1)) = some (0, 1)
    rw [fcon_ev]
  have key : ∀ (n : Nat) (ρ : Nat → Int) (h : bH), aIn (PofW G none true) (gsc g) (fun _ _ => 0) ρ h (lwS (fid 1) (lwD 3072 R r)) → (3072 - ρ 1).toNat < n → WP g l (0 + 40) 0 0 212 (fun r _ => r = some (0, 1)) (conc ρ 18 (nC (lwS (fid 1) (lwD 3072 R r)).2.2) h (lwS (fid 1) (lwD 3072 R r))) := by
    intro n
    induction n with
    | zero => intro ρ h _ hlt; omega
    | succ n ih =>
      intro ρ h hi hlt
      refine key_in (D := 0) (d0 := 40) (m0 := 8) (ex := [lwX R r]) (hd := hd) (po := lwO) (k := 0) (N0 := 0) (N1 := 212) (ρ0 := ρ) (h0 := fun _ _ => 0) (F := F) (cells := cells) (sp := sp) hpw hT hM (hC g l) hH ?_ (fun p hp ρ' h' _ _ => hpost p hp ρ' h') 4 (18, lwS (fid 1) (lwD 3072 R r), fcon 3) hh ρ h hi (fun _ _ => rfl) (by show (0 : Int) ≤ ev ρ (fcon 3); rw [fcon_ev]; omega) (by show (ev ρ (fcon 3)).toNat < 4; rw [fcon_ev]; decide)
      intro H hm ρ' h' hi' hx
      cases List.mem_singleton.mp hm
      have q := hi'.1
      have h1 : (0 : Int) ≤ ρ' 1 ∧ ρ' 1 ≤ 3066 := q.1 1 (Nat.succ_lt_succ (Nat.zero_lt_succ _))
      have e1 : ρ' 1 = ρ 1 := hx 1 (by decide)
      have hl8 : ∀ i, i < 8 → i < (eC (lwD 3072 R r)).length := fun i hi => Nat.lt_of_lt_of_le hi (Nat.le_add_left 8 R.length)
      have hin : aIn (PofW G none true) (gsc g) (fun _ _ => 0) (lwN (gsc g) ρ') h' (lwS (fid 1) (lwD 3072 R r)) := by
        refine ⟨⟨lwN_env q.1, fun f hf => ?_, fun c hc => ?_, q.2.2.2.1, q.2.2.2.2.1, fun hp => ?_⟩, ?_, fun v hv => (by cases hv)⟩
        · have := q.2.1 f hf
          exact ⟨this.1, by rw [lwN_hi (List.all_eq_true.mp o1 f hf)]; exact this.2⟩
        · have := q.2.2.1 c hc
          exact ⟨this.1, by rw [lwN_hi (List.all_eq_true.mp o2 c hc)]; exact this.2⟩
        · have := q.2.2.2.2.2 hp
          exact ⟨lwN_scr this.1, this.2⟩
        · intro z hz
          rcases List.mem_cons.mp hz with rfl | hz
          · exact wf_con _ _
          rcases List.mem_cons.mp hz with rfl | hz
          · exact wf_con _ _
          rcases List.mem_cons.mp hz with rfl | hz
          · exact wf_con _ _
          cases List.mem_singleton.mp hz
          exact wf_id (hl8 1 (by decide))
      have e2 : lwN (gsc g) ρ' 1 = ρ' 1 + 6 := by
        unfold lwN
        rw [if_pos rfl]
      have := ih (lwN (gsc g) ρ') h' hin (by rw [e2, e1]; omega)
      have ec : conc ρ' 18 (nC (lwX R r).2.1.2.2) h' (lwX R r).2.1 = conc (lwN (gsc g) ρ') 18 (nC (lwS (fid 1) (lwD 3072 R r)).2.2) h' (lwS (fid 1) (lwD 3072 R r)) := by
        unfold conc lwX lwS evL evS
        simp only [List.map_cons, List.map_nil, fcon_ev, fid_ev, e2]
        have : ev ρ' ((6, [(1, 1)]) : Fm) = ρ' 1 + 6 := by
          simp only [ev, evT]
          omega
        rw [this]
        rfl
      show WP g l (0 + 40) 0 0 212 _ (conc ρ' 18 (nC (lwX R r).2.1.2.2) h' (lwX R r).2.1)
      rw [ec]
      exact this
  unfold lwE0 at hE0
  rw [Bool.and_eq_true] at hE0
  obtain ⟨e0, e6⟩ := hE0
  unfold lwE1 at hE1
  simp only [Bool.and_eq_true, decide_eq_true_eq] at hE1
  obtain ⟨e8, e7⟩ := hE1
  obtain ⟨w1, w2, w3, w4⟩ := okP_x e0
  let ρ0 : Nat → Int := fun i => if i = 0 then ((gsc g).1 : Int) else if i = 1 then 0 else ((gsc g).2 ((i - 2 : Nat) : Int).toNat).toInt
  have hscr : scr (gsc g) ρ0 := by
    refine ⟨rfl, fun j hj => ?_⟩
    show (if 2 + j = 0 then ((gsc g).1 : Int) else if 2 + j = 1 then 0 else ((gsc g).2 ((2 + j - 2 : Nat) : Int).toNat).toInt) = ((gsc g).2 ((0 : Int) + (j : Int)).toNat).toInt
    rw [if_neg (by omega), if_neg (by omega), show 2 + j - 2 = j by omega, Int.zero_add]
  have hc : core (PofW G none true) (gsc g) (fun _ _ => 0) ρ0 (fun _ _ => 0) (lwD 0 [] ([], [], 0)) := by
    refine ⟨fun i hi => ?_, fun f hf => (by cases hf), fun c hc => (by cases hc), fun a j ha => (absurd ha (Nat.not_lt_zero a)), fun _ _ _ => rfl, fun _ => ⟨hscr, Nat.le_refl 8⟩⟩
    have hr : ∀ j, 2 ≤ j → (-2147483648 : Int) ≤ ρ0 j ∧ ρ0 j ≤ 2147483647 := fun j h1 => by
      show (-2147483648 : Int) ≤ (if j = 0 then ((gsc g).1 : Int) else if j = 1 then 0 else ((gsc g).2 ((j - 2 : Nat) : Int).toNat).toInt) ∧ (if j = 0 then ((gsc g).1 : Int) else if j = 1 then 0 else ((gsc g).2 ((j - 2 : Nat) : Int).toNat).toInt) ≤ 2147483647
      rw [if_neg (by omega), if_neg (by omega)]
      exact i32_in _
    match i, hi with
    | 0, _ =>
      show (0 : Int) ≤ ((gsc g).1 : Int) ∧ ((gsc g).1 : Int) ≤ (3072 : Int)
      omega
    | 1, _ =>
      show (0 : Int) ≤ (0 : Int) ∧ (0 : Int) ≤ (0 : Int)
      omega
    | 2, _ => exact hr 2 (by decide)
    | 3, _ => exact hr 3 (by decide)
    | 4, _ => exact hr 4 (by decide)
    | 5, _ => exact hr 5 (by decide)
    | 6, _ => exact hr 6 (by decide)
    | 7, _ => exact hr 7 (by decide)
    | i + 8, hi => exact absurd hi (by show ¬ i + 8 < 8; omega)
  have hyp : aHyp g l (G, none, true, cs, [(8, T8, fcon 0)], 8, [], cells, none, sp) (fun _ _ => 0) ρ0 0 0 40 0 0 212 (fun r _ => r = some (0, 1)) := by
    refine ⟨hpw, hT, hM, hC g l, ?_, fun p hp => (by cases hp)⟩
    intro H hm ρ' h' a1 a2 _ _
    cases List.mem_singleton.mp hm
    show WP g l 40 0 0 212 _ (conc ρ' 8 (nC T8.2.2) h' T8)
    split at e7
    case h_2 => cases e7
    rename_i ts hts
    have hyp2 : aHyp g l (G, none, true, cs, [(18, lwS (fid 1) (lwD 3072 R r), fcon 0)], 8, [], cells, none, sp) (fun _ _ => 0) ρ' 0 0 40 0 0 212 (fun r _ => r = some (0, 1)) := by
      refine ⟨hpw, hT, hM, hC g l, ?_, fun p hp => (by cases hp)⟩
      intro H2 hm2 ρ2 h2 b1 b2 _ _
      cases List.mem_singleton.mp hm2
      exact key _ ρ2 h2 b1 (Nat.lt_succ_self _)
    exact arun_ok hyp2 F 40 [] 0 0 212 1 8 ts T8 ρ' h' e7 ⟨a1, fun _ _ => rfl, e8, fun u hu => by cases hu⟩ (fun z hz => by cases hz) ⟨rfl, rfl, rfl, rfl⟩ (tkF_ok (hT _) hts)
  have := arun_ok hyp F 40 [] 0 0 212 0 0 (tk 0) (aargs 0 [(2, fcon 700)], [], lwD 0 [] ([], [], 0)) ρ0 (fun _ _ => 0) e6 ⟨⟨hc, aargs_wf w2, fun v hv => (by cases hv)⟩, fun _ _ => rfl, Nat.le_refl 8, fun u hu => by cases hu⟩ (fun z hz => by cases hz) ⟨rfl, rfl, rfl, rfl⟩ (hT _)
  unfold conc at this
  dsimp only at this
  rw [aargs_ev] at this
  exact this
end
-- == 50.facts.lean.txt
section
/-! THE BYTES: what is told of them apart (the last parts) -/
def BytesOK : Prop := (∀ k, okL k 0 (tk k) = true) ∧ ∀ k, kGood k = true → okM k = true
theorem nilK {α : Type} {P : α → Prop} : ∀ z ∈ ([] : List α), P z := fun _ h => by cases h
end
