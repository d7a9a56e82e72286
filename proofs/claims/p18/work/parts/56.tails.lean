def T107_40 : List Tok := []
def T107_39 : List Tok := (.ireturn, 1, 0, 0) :: T107_40
def T107_38 : List Tok := (.putfield 48, 3, 576, 215) :: T107_39
def T107_37 : List Tok := (.iadd, 1, 0, 0) :: T107_38
def T107_36 : List Tok := (.iconst 1, 1, 0, 0) :: T107_37
def T107_35 : List Tok := (.dup_x1, 1, 0, 0) :: T107_36
def T107_34 : List Tok := (.getfield 48, 3, 576, 215) :: T107_35
def T107_33 : List Tok := (.dup, 1, 0, 0) :: T107_34
def T107_32 : List Tok := (.aload_n 0, 1, 0, 0) :: T107_33
def T107_31 : List Tok := (.iastore, 1, 0, 0) :: T107_32
def T107_30 : List Tok := (.iload_n 3, 1, 0, 0) :: T107_31
def T107_29 : List Tok := (.getfield 48, 3, 576, 215) :: T107_30
def T107_28 : List Tok := (.aload_n 0, 1, 0, 0) :: T107_29
def T107_27 : List Tok := (.getfield 18, 3, 579, 220) :: T107_28
def T107_26 : List Tok := (.aload_n 0, 1, 0, 0) :: T107_27
def T107_25 : List Tok := (.iastore, 1, 0, 0) :: T107_26
def T107_24 : List Tok := (.iload_n 2, 1, 0, 0) :: T107_25
def T107_23 : List Tok := (.getfield 48, 3, 576, 215) :: T107_24
def T107_22 : List Tok := (.aload_n 0, 1, 0, 0) :: T107_23
def T107_21 : List Tok := (.getfield 15, 3, 578, 218) :: T107_22
def T107_20 : List Tok := (.aload_n 0, 1, 0, 0) :: T107_21
def T107_19 : List Tok := (.iastore, 1, 0, 0) :: T107_20
def T107_18 : List Tok := (.iload_n 1, 1, 0, 0) :: T107_19
def T107_17 : List Tok := (.getfield 48, 3, 576, 215) :: T107_18
def T107_16 : List Tok := (.aload_n 0, 1, 0, 0) :: T107_17
def T107_15 : List Tok := (.getfield 9, 3, 577, 217) :: T107_16
def T107_14 : List Tok := (.aload_n 0, 1, 0, 0) :: T107_15
def T107_13 : List Tok := (.ireturn, 1, 0, 0) :: T107_14
def T107_12 : List Tok := (.bipush (-2), 2, 0, 0) :: T107_13
def T107_11 : List Tok := (.if_icmp .lt 6, 3, 0, 0) :: T107_12
def T107_10 : List Tok := (.bipush 24, 2, 0, 0) :: T107_11
def T107_9 : List Tok := (.getfield 48, 3, 576, 215) :: T107_10
def T107_8 : List Tok := (.aload_n 0, 1, 0, 0) :: T107_9
def T107_7 : List Tok := (.ireturn, 1, 0, 0) :: T107_8
def T107_6 : List Tok := (.iconst (-1), 1, 0, 0) :: T107_7
def T107_5 : List Tok := (.if_icmp .le 5, 3, 0, 0) :: T107_6
def T107_4 : List Tok := (.sipush 999, 3, 0, 0) :: T107_5
def T107_3 : List Tok := (.iload_n 2, 1, 0, 0) :: T107_4
def T107_2 : List Tok := (.if_icmp .lt 10, 3, 0, 0) :: T107_3
def T107_1 : List Tok := (.iconst 1, 1, 0, 0) :: T107_2
def T107_0 : List Tok := (.iload_n 2, 1, 0, 0) :: T107_1
theorem o107_0 (hB : BytesOK) : okL 107 0 T107_0 = true := by
  have h := hB.1 107
  rw [show tk 107 = T107_0 from by decide +kernel] at h
  exact h
theorem o107_1 (hB : BytesOK) : okL 107 1 T107_1 = true := (okL_c (o107_0 hB)).2.2
theorem o107_2 (hB : BytesOK) : okL 107 2 T107_2 = true := (okL_c (o107_1 hB)).2.2
theorem o107_3 (hB : BytesOK) : okL 107 5 T107_3 = true := (okL_c (o107_2 hB)).2.2
theorem o107_4 (hB : BytesOK) : okL 107 6 T107_4 = true := (okL_c (o107_3 hB)).2.2
theorem o107_5 (hB : BytesOK) : okL 107 9 T107_5 = true := (okL_c (o107_4 hB)).2.2
theorem o107_6 (hB : BytesOK) : okL 107 12 T107_6 = true := (okL_c (o107_5 hB)).2.2
theorem o107_7 (hB : BytesOK) : okL 107 13 T107_7 = true := (okL_c (o107_6 hB)).2.2
theorem o107_8 (hB : BytesOK) : okL 107 14 T107_8 = true := (okL_c (o107_7 hB)).2.2
theorem o107_9 (hB : BytesOK) : okL 107 15 T107_9 = true := (okL_c (o107_8 hB)).2.2
theorem o107_10 (hB : BytesOK) : okL 107 18 T107_10 = true := (okL_c (o107_9 hB)).2.2
theorem o107_11 (hB : BytesOK) : okL 107 20 T107_11 = true := (okL_c (o107_10 hB)).2.2
theorem o107_12 (hB : BytesOK) : okL 107 23 T107_12 = true := (okL_c (o107_11 hB)).2.2
theorem o107_13 (hB : BytesOK) : okL 107 25 T107_13 = true := (okL_c (o107_12 hB)).2.2
theorem o107_14 (hB : BytesOK) : okL 107 26 T107_14 = true := (okL_c (o107_13 hB)).2.2
theorem o107_15 (hB : BytesOK) : okL 107 27 T107_15 = true := (okL_c (o107_14 hB)).2.2
theorem o107_16 (hB : BytesOK) : okL 107 30 T107_16 = true := (okL_c (o107_15 hB)).2.2
theorem o107_17 (hB : BytesOK) : okL 107 31 T107_17 = true := (okL_c (o107_16 hB)).2.2
theorem o107_18 (hB : BytesOK) : okL 107 34 T107_18 = true := (okL_c (o107_17 hB)).2.2
theorem o107_19 (hB : BytesOK) : okL 107 35 T107_19 = true := (okL_c (o107_18 hB)).2.2
theorem o107_20 (hB : BytesOK) : okL 107 36 T107_20 = true := (okL_c (o107_19 hB)).2.2
theorem o107_21 (hB : BytesOK) : okL 107 37 T107_21 = true := (okL_c (o107_20 hB)).2.2
theorem o107_22 (hB : BytesOK) : okL 107 40 T107_22 = true := (okL_c (o107_21 hB)).2.2
theorem o107_23 (hB : BytesOK) : okL 107 41 T107_23 = true := (okL_c (o107_22 hB)).2.2
theorem o107_24 (hB : BytesOK) : okL 107 44 T107_24 = true := (okL_c (o107_23 hB)).2.2
theorem o107_25 (hB : BytesOK) : okL 107 45 T107_25 = true := (okL_c (o107_24 hB)).2.2
theorem o107_26 (hB : BytesOK) : okL 107 46 T107_26 = true := (okL_c (o107_25 hB)).2.2
theorem o107_27 (hB : BytesOK) : okL 107 47 T107_27 = true := (okL_c (o107_26 hB)).2.2
theorem o107_28 (hB : BytesOK) : okL 107 50 T107_28 = true := (okL_c (o107_27 hB)).2.2
theorem o107_29 (hB : BytesOK) : okL 107 51 T107_29 = true := (okL_c (o107_28 hB)).2.2
theorem o107_30 (hB : BytesOK) : okL 107 54 T107_30 = true := (okL_c (o107_29 hB)).2.2
theorem o107_31 (hB : BytesOK) : okL 107 55 T107_31 = true := (okL_c (o107_30 hB)).2.2
theorem o107_32 (hB : BytesOK) : okL 107 56 T107_32 = true := (okL_c (o107_31 hB)).2.2
theorem o107_33 (hB : BytesOK) : okL 107 57 T107_33 = true := (okL_c (o107_32 hB)).2.2
theorem o107_34 (hB : BytesOK) : okL 107 58 T107_34 = true := (okL_c (o107_33 hB)).2.2
theorem o107_35 (hB : BytesOK) : okL 107 61 T107_35 = true := (okL_c (o107_34 hB)).2.2
theorem o107_36 (hB : BytesOK) : okL 107 62 T107_36 = true := (okL_c (o107_35 hB)).2.2
theorem o107_37 (hB : BytesOK) : okL 107 63 T107_37 = true := (okL_c (o107_36 hB)).2.2
theorem o107_38 (hB : BytesOK) : okL 107 64 T107_38 = true := (okL_c (o107_37 hB)).2.2
theorem o107_39 (hB : BytesOK) : okL 107 67 T107_39 = true := (okL_c (o107_38 hB)).2.2
theorem ml107 : mml 107 = 4 := by decide +kernel
theorem mr107 : mret 107 = some .int := by decide +kernel
theorem mg107 : kGood 107 = true := by decide +kernel

def T108_31 : List Tok := []
def T108_30 : List Tok := (.ireturn, 1, 0, 0) :: T108_31
def T108_29 : List Tok := (.iload_n 3, 1, 0, 0) :: T108_30
def T108_28 : List Tok := (.goto (-44), 3, 0, 0) :: T108_29
def T108_27 : List Tok := (.iinc 4 1, 3, 0, 0) :: T108_28
def T108_26 : List Tok := (.istore_n 3, 1, 0, 0) :: T108_27
def T108_25 : List Tok := (.iadd, 1, 0, 0) :: T108_26
def T108_24 : List Tok := (.iaload, 1, 0, 0) :: T108_25
def T108_23 : List Tok := (.iload 4, 2, 0, 0) :: T108_24
def T108_22 : List Tok := (.getfield 15, 3, 578, 218) :: T108_23
def T108_21 : List Tok := (.aload_n 0, 1, 0, 0) :: T108_22
def T108_20 : List Tok := (.iload_n 3, 1, 0, 0) :: T108_21
def T108_19 : List Tok := (.if_icmp .gt 13, 3, 0, 0) :: T108_20
def T108_18 : List Tok := (.iload_n 2, 1, 0, 0) :: T108_19
def T108_17 : List Tok := (.iaload, 1, 0, 0) :: T108_18
def T108_16 : List Tok := (.iload 4, 2, 0, 0) :: T108_17
def T108_15 : List Tok := (.getfield 18, 3, 579, 220) :: T108_16
def T108_14 : List Tok := (.aload_n 0, 1, 0, 0) :: T108_15
def T108_13 : List Tok := (.if_icmp .ne 24, 3, 0, 0) :: T108_14
def T108_12 : List Tok := (.iload_n 1, 1, 0, 0) :: T108_13
def T108_11 : List Tok := (.iaload, 1, 0, 0) :: T108_12
def T108_10 : List Tok := (.iload 4, 2, 0, 0) :: T108_11
def T108_9 : List Tok := (.getfield 9, 3, 577, 217) :: T108_10
def T108_8 : List Tok := (.aload_n 0, 1, 0, 0) :: T108_9
def T108_7 : List Tok := (.if_icmp .ge 41, 3, 0, 0) :: T108_8
def T108_6 : List Tok := (.getfield 48, 3, 576, 215) :: T108_7
def T108_5 : List Tok := (.aload_n 0, 1, 0, 0) :: T108_6
def T108_4 : List Tok := (.iload 4, 2, 0, 0) :: T108_5
def T108_3 : List Tok := (.istore 4, 2, 0, 0) :: T108_4
def T108_2 : List Tok := (.iconst 0, 1, 0, 0) :: T108_3
def T108_1 : List Tok := (.istore_n 3, 1, 0, 0) :: T108_2
def T108_0 : List Tok := (.iconst 0, 1, 0, 0) :: T108_1
theorem o108_0 (hB : BytesOK) : okL 108 0 T108_0 = true := by
  have h := hB.1 108
  rw [show tk 108 = T108_0 from by decide +kernel] at h
  exact h
theorem o108_1 (hB : BytesOK) : okL 108 1 T108_1 = true := (okL_c (o108_0 hB)).2.2
theorem o108_2 (hB : BytesOK) : okL 108 2 T108_2 = true := (okL_c (o108_1 hB)).2.2
theorem o108_3 (hB : BytesOK) : okL 108 3 T108_3 = true := (okL_c (o108_2 hB)).2.2
theorem o108_4 (hB : BytesOK) : okL 108 5 T108_4 = true := (okL_c (o108_3 hB)).2.2
theorem o108_5 (hB : BytesOK) : okL 108 7 T108_5 = true := (okL_c (o108_4 hB)).2.2
theorem o108_6 (hB : BytesOK) : okL 108 8 T108_6 = true := (okL_c (o108_5 hB)).2.2
theorem o108_7 (hB : BytesOK) : okL 108 11 T108_7 = true := (okL_c (o108_6 hB)).2.2
theorem o108_8 (hB : BytesOK) : okL 108 14 T108_8 = true := (okL_c (o108_7 hB)).2.2
theorem o108_9 (hB : BytesOK) : okL 108 15 T108_9 = true := (okL_c (o108_8 hB)).2.2
theorem o108_10 (hB : BytesOK) : okL 108 18 T108_10 = true := (okL_c (o108_9 hB)).2.2
theorem o108_11 (hB : BytesOK) : okL 108 20 T108_11 = true := (okL_c (o108_10 hB)).2.2
theorem o108_12 (hB : BytesOK) : okL 108 21 T108_12 = true := (okL_c (o108_11 hB)).2.2
theorem o108_13 (hB : BytesOK) : okL 108 22 T108_13 = true := (okL_c (o108_12 hB)).2.2
theorem o108_14 (hB : BytesOK) : okL 108 25 T108_14 = true := (okL_c (o108_13 hB)).2.2
theorem o108_15 (hB : BytesOK) : okL 108 26 T108_15 = true := (okL_c (o108_14 hB)).2.2
theorem o108_16 (hB : BytesOK) : okL 108 29 T108_16 = true := (okL_c (o108_15 hB)).2.2
theorem o108_17 (hB : BytesOK) : okL 108 31 T108_17 = true := (okL_c (o108_16 hB)).2.2
theorem o108_18 (hB : BytesOK) : okL 108 32 T108_18 = true := (okL_c (o108_17 hB)).2.2
theorem o108_19 (hB : BytesOK) : okL 108 33 T108_19 = true := (okL_c (o108_18 hB)).2.2
theorem o108_20 (hB : BytesOK) : okL 108 36 T108_20 = true := (okL_c (o108_19 hB)).2.2
theorem o108_21 (hB : BytesOK) : okL 108 37 T108_21 = true := (okL_c (o108_20 hB)).2.2
theorem o108_22 (hB : BytesOK) : okL 108 38 T108_22 = true := (okL_c (o108_21 hB)).2.2
theorem o108_23 (hB : BytesOK) : okL 108 41 T108_23 = true := (okL_c (o108_22 hB)).2.2
theorem o108_24 (hB : BytesOK) : okL 108 43 T108_24 = true := (okL_c (o108_23 hB)).2.2
theorem o108_25 (hB : BytesOK) : okL 108 44 T108_25 = true := (okL_c (o108_24 hB)).2.2
theorem o108_26 (hB : BytesOK) : okL 108 45 T108_26 = true := (okL_c (o108_25 hB)).2.2
theorem o108_27 (hB : BytesOK) : okL 108 46 T108_27 = true := (okL_c (o108_26 hB)).2.2
theorem o108_28 (hB : BytesOK) : okL 108 49 T108_28 = true := (okL_c (o108_27 hB)).2.2
theorem o108_29 (hB : BytesOK) : okL 108 52 T108_29 = true := (okL_c (o108_28 hB)).2.2
theorem o108_30 (hB : BytesOK) : okL 108 53 T108_30 = true := (okL_c (o108_29 hB)).2.2
theorem ml108 : mml 108 = 5 := by decide +kernel
theorem mr108 : mret 108 = some .int := by decide +kernel
theorem mg108 : kGood 108 = true := by decide +kernel

def T123_31 : List Tok := []
def T123_30 : List Tok := (.ireturn, 1, 0, 0) :: T123_31
def T123_29 : List Tok := (.getfield 58, 3, 192, 121) :: T123_30
def T123_28 : List Tok := (.getfield 54, 3, 128, 366) :: T123_29
def T123_27 : List Tok := (.getfield 10, 3, 640, 497) :: T123_28
def T123_26 : List Tok := (.aload_n 0, 1, 0, 0) :: T123_27
def T123_25 : List Tok := (.putfield 58, 3, 192, 121) :: T123_26
def T123_24 : List Tok := (.iadd, 1, 0, 0) :: T123_25
def T123_23 : List Tok := (.iload_n 1, 1, 0, 0) :: T123_24
def T123_22 : List Tok := (.getfield 58, 3, 192, 121) :: T123_23
def T123_21 : List Tok := (.dup, 1, 0, 0) :: T123_22
def T123_20 : List Tok := (.getfield 54, 3, 128, 366) :: T123_21
def T123_19 : List Tok := (.getfield 10, 3, 640, 497) :: T123_20
def T123_18 : List Tok := (.aload_n 0, 1, 0, 0) :: T123_19
def T123_17 : List Tok := (.ireturn, 1, 0, 0) :: T123_18
def T123_16 : List Tok := (.bipush (-4), 2, 0, 0) :: T123_17
def T123_15 : List Tok := (.if_icmp .lt 6, 3, 0, 0) :: T123_16
def T123_14 : List Tok := (.sipush 240, 3, 0, 0) :: T123_15
def T123_13 : List Tok := (.iadd, 1, 0, 0) :: T123_14
def T123_12 : List Tok := (.iload_n 1, 1, 0, 0) :: T123_13
def T123_11 : List Tok := (.getfield 58, 3, 192, 121) :: T123_12
def T123_10 : List Tok := (.getfield 54, 3, 128, 366) :: T123_11
def T123_9 : List Tok := (.getfield 10, 3, 640, 497) :: T123_10
def T123_8 : List Tok := (.aload_n 0, 1, 0, 0) :: T123_9
def T123_7 : List Tok := (.ireturn, 1, 0, 0) :: T123_8
def T123_6 : List Tok := (.iconst (-1), 1, 0, 0) :: T123_7
def T123_5 : List Tok := (.if_icmp .le 5, 3, 0, 0) :: T123_6
def T123_4 : List Tok := (.bipush 60, 2, 0, 0) :: T123_5
def T123_3 : List Tok := (.iload_n 1, 1, 0, 0) :: T123_4
def T123_2 : List Tok := (.if_icmp .lt 9, 3, 0, 0) :: T123_3
def T123_1 : List Tok := (.iconst 1, 1, 0, 0) :: T123_2
def T123_0 : List Tok := (.iload_n 1, 1, 0, 0) :: T123_1
theorem o123_0 (hB : BytesOK) : okL 123 0 T123_0 = true := by
  have h := hB.1 123
  rw [show tk 123 = T123_0 from by decide +kernel] at h
  exact h
theorem o123_1 (hB : BytesOK) : okL 123 1 T123_1 = true := (okL_c (o123_0 hB)).2.2
theorem o123_2 (hB : BytesOK) : okL 123 2 T123_2 = true := (okL_c (o123_1 hB)).2.2
theorem o123_3 (hB : BytesOK) : okL 123 5 T123_3 = true := (okL_c (o123_2 hB)).2.2
theorem o123_4 (hB : BytesOK) : okL 123 6 T123_4 = true := (okL_c (o123_3 hB)).2.2
theorem o123_5 (hB : BytesOK) : okL 123 8 T123_5 = true := (okL_c (o123_4 hB)).2.2
theorem o123_6 (hB : BytesOK) : okL 123 11 T123_6 = true := (okL_c (o123_5 hB)).2.2
theorem o123_7 (hB : BytesOK) : okL 123 12 T123_7 = true := (okL_c (o123_6 hB)).2.2
theorem o123_8 (hB : BytesOK) : okL 123 13 T123_8 = true := (okL_c (o123_7 hB)).2.2
theorem o123_9 (hB : BytesOK) : okL 123 14 T123_9 = true := (okL_c (o123_8 hB)).2.2
theorem o123_10 (hB : BytesOK) : okL 123 17 T123_10 = true := (okL_c (o123_9 hB)).2.2
theorem o123_11 (hB : BytesOK) : okL 123 20 T123_11 = true := (okL_c (o123_10 hB)).2.2
theorem o123_12 (hB : BytesOK) : okL 123 23 T123_12 = true := (okL_c (o123_11 hB)).2.2
theorem o123_13 (hB : BytesOK) : okL 123 24 T123_13 = true := (okL_c (o123_12 hB)).2.2
theorem o123_14 (hB : BytesOK) : okL 123 25 T123_14 = true := (okL_c (o123_13 hB)).2.2
theorem o123_15 (hB : BytesOK) : okL 123 28 T123_15 = true := (okL_c (o123_14 hB)).2.2
theorem o123_16 (hB : BytesOK) : okL 123 31 T123_16 = true := (okL_c (o123_15 hB)).2.2
theorem o123_17 (hB : BytesOK) : okL 123 33 T123_17 = true := (okL_c (o123_16 hB)).2.2
theorem o123_18 (hB : BytesOK) : okL 123 34 T123_18 = true := (okL_c (o123_17 hB)).2.2
theorem o123_19 (hB : BytesOK) : okL 123 35 T123_19 = true := (okL_c (o123_18 hB)).2.2
theorem o123_20 (hB : BytesOK) : okL 123 38 T123_20 = true := (okL_c (o123_19 hB)).2.2
theorem o123_21 (hB : BytesOK) : okL 123 41 T123_21 = true := (okL_c (o123_20 hB)).2.2
theorem o123_22 (hB : BytesOK) : okL 123 42 T123_22 = true := (okL_c (o123_21 hB)).2.2
theorem o123_23 (hB : BytesOK) : okL 123 45 T123_23 = true := (okL_c (o123_22 hB)).2.2
theorem o123_24 (hB : BytesOK) : okL 123 46 T123_24 = true := (okL_c (o123_23 hB)).2.2
theorem o123_25 (hB : BytesOK) : okL 123 47 T123_25 = true := (okL_c (o123_24 hB)).2.2
theorem o123_26 (hB : BytesOK) : okL 123 50 T123_26 = true := (okL_c (o123_25 hB)).2.2
theorem o123_27 (hB : BytesOK) : okL 123 51 T123_27 = true := (okL_c (o123_26 hB)).2.2
theorem o123_28 (hB : BytesOK) : okL 123 54 T123_28 = true := (okL_c (o123_27 hB)).2.2
theorem o123_29 (hB : BytesOK) : okL 123 57 T123_29 = true := (okL_c (o123_28 hB)).2.2
theorem o123_30 (hB : BytesOK) : okL 123 60 T123_30 = true := (okL_c (o123_29 hB)).2.2
theorem ml123 : mml 123 = 2 := by decide +kernel
theorem mr123 : mret 123 = some .int := by decide +kernel
theorem mg123 : kGood 123 = true := by decide +kernel

def T138_24 : List Tok := []
def T138_23 : List Tok := (.ireturn, 1, 0, 0) :: T138_24
def T138_22 : List Tok := (.invokevirtual 157, 3, 107, 851) :: T138_23
def T138_21 : List Tok := (.getfield 58, 3, 192, 121) :: T138_22
def T138_20 : List Tok := (.getfield 54, 3, 128, 366) :: T138_21
def T138_19 : List Tok := (.getfield 10, 3, 640, 497) :: T138_20
def T138_18 : List Tok := (.aload_n 0, 1, 0, 0) :: T138_19
def T138_17 : List Tok := (.iload_n 2, 1, 0, 0) :: T138_18
def T138_16 : List Tok := (.iload_n 1, 1, 0, 0) :: T138_17
def T138_15 : List Tok := (.getfield 153, 3, 130, 370) :: T138_16
def T138_14 : List Tok := (.getfield 10, 3, 640, 497) :: T138_15
def T138_13 : List Tok := (.aload_n 0, 1, 0, 0) :: T138_14
def T138_12 : List Tok := (.ireturn, 1, 0, 0) :: T138_13
def T138_11 : List Tok := (.iconst (-1), 1, 0, 0) :: T138_12
def T138_10 : List Tok := (.if_icmp .le 5, 3, 0, 0) :: T138_11
def T138_9 : List Tok := (.getfield 58, 3, 192, 121) :: T138_10
def T138_8 : List Tok := (.getfield 54, 3, 128, 366) :: T138_9
def T138_7 : List Tok := (.getfield 10, 3, 640, 497) :: T138_8
def T138_6 : List Tok := (.aload_n 0, 1, 0, 0) :: T138_7
def T138_5 : List Tok := (.irem, 1, 0, 0) :: T138_6
def T138_4 : List Tok := (.sipush 1000, 3, 0, 0) :: T138_5
def T138_3 : List Tok := (.iload_n 1, 1, 0, 0) :: T138_4
def T138_2 : List Tok := (.ifCond .eq 21, 3, 0, 0) :: T138_3
def T138_1 : List Tok := (.invokestatic 150, 3, 177, 848) :: T138_2
def T138_0 : List Tok := (.iload_n 1, 1, 0, 0) :: T138_1
theorem o138_0 (hB : BytesOK) : okL 138 0 T138_0 = true := by
  have h := hB.1 138
  rw [show tk 138 = T138_0 from by decide +kernel] at h
  exact h
theorem o138_1 (hB : BytesOK) : okL 138 1 T138_1 = true := (okL_c (o138_0 hB)).2.2
theorem o138_2 (hB : BytesOK) : okL 138 4 T138_2 = true := (okL_c (o138_1 hB)).2.2
theorem o138_3 (hB : BytesOK) : okL 138 7 T138_3 = true := (okL_c (o138_2 hB)).2.2
theorem o138_4 (hB : BytesOK) : okL 138 8 T138_4 = true := (okL_c (o138_3 hB)).2.2
theorem o138_5 (hB : BytesOK) : okL 138 11 T138_5 = true := (okL_c (o138_4 hB)).2.2
theorem o138_6 (hB : BytesOK) : okL 138 12 T138_6 = true := (okL_c (o138_5 hB)).2.2
theorem o138_7 (hB : BytesOK) : okL 138 13 T138_7 = true := (okL_c (o138_6 hB)).2.2
theorem o138_8 (hB : BytesOK) : okL 138 16 T138_8 = true := (okL_c (o138_7 hB)).2.2
theorem o138_9 (hB : BytesOK) : okL 138 19 T138_9 = true := (okL_c (o138_8 hB)).2.2
theorem o138_10 (hB : BytesOK) : okL 138 22 T138_10 = true := (okL_c (o138_9 hB)).2.2
theorem o138_11 (hB : BytesOK) : okL 138 25 T138_11 = true := (okL_c (o138_10 hB)).2.2
theorem o138_12 (hB : BytesOK) : okL 138 26 T138_12 = true := (okL_c (o138_11 hB)).2.2
theorem o138_13 (hB : BytesOK) : okL 138 27 T138_13 = true := (okL_c (o138_12 hB)).2.2
theorem o138_14 (hB : BytesOK) : okL 138 28 T138_14 = true := (okL_c (o138_13 hB)).2.2
theorem o138_15 (hB : BytesOK) : okL 138 31 T138_15 = true := (okL_c (o138_14 hB)).2.2
theorem o138_16 (hB : BytesOK) : okL 138 34 T138_16 = true := (okL_c (o138_15 hB)).2.2
theorem o138_17 (hB : BytesOK) : okL 138 35 T138_17 = true := (okL_c (o138_16 hB)).2.2
theorem o138_18 (hB : BytesOK) : okL 138 36 T138_18 = true := (okL_c (o138_17 hB)).2.2
theorem o138_19 (hB : BytesOK) : okL 138 37 T138_19 = true := (okL_c (o138_18 hB)).2.2
theorem o138_20 (hB : BytesOK) : okL 138 40 T138_20 = true := (okL_c (o138_19 hB)).2.2
theorem o138_21 (hB : BytesOK) : okL 138 43 T138_21 = true := (okL_c (o138_20 hB)).2.2
theorem o138_22 (hB : BytesOK) : okL 138 46 T138_22 = true := (okL_c (o138_21 hB)).2.2
theorem o138_23 (hB : BytesOK) : okL 138 49 T138_23 = true := (okL_c (o138_22 hB)).2.2
theorem ml138 : mml 138 = 3 := by decide +kernel
theorem mr138 : mret 138 = some .int := by decide +kernel
theorem mg138 : kGood 138 = true := by decide +kernel

def T139_15 : List Tok := []
def T139_14 : List Tok := (.ireturn, 1, 0, 0) :: T139_15
def T139_13 : List Tok := (.invokevirtual 163, 3, 108, 859) :: T139_14
def T139_12 : List Tok := (.iload_n 2, 1, 0, 0) :: T139_13
def T139_11 : List Tok := (.iload_n 1, 1, 0, 0) :: T139_12
def T139_10 : List Tok := (.getfield 153, 3, 130, 370) :: T139_11
def T139_9 : List Tok := (.getfield 10, 3, 640, 497) :: T139_10
def T139_8 : List Tok := (.aload_n 0, 1, 0, 0) :: T139_9
def T139_7 : List Tok := (.ireturn, 1, 0, 0) :: T139_8
def T139_6 : List Tok := (.iconst (-1), 1, 0, 0) :: T139_7
def T139_5 : List Tok := (.ifCond .ne 5, 3, 0, 0) :: T139_6
def T139_4 : List Tok := (.invokestatic 76, 3, 171, 563) :: T139_5
def T139_3 : List Tok := (.iload_n 2, 1, 0, 0) :: T139_4
def T139_2 : List Tok := (.ifCond .eq 10, 3, 0, 0) :: T139_3
def T139_1 : List Tok := (.invokestatic 150, 3, 177, 848) :: T139_2
def T139_0 : List Tok := (.iload_n 1, 1, 0, 0) :: T139_1
theorem o139_0 (hB : BytesOK) : okL 139 0 T139_0 = true := by
  have h := hB.1 139
  rw [show tk 139 = T139_0 from by decide +kernel] at h
  exact h
theorem o139_1 (hB : BytesOK) : okL 139 1 T139_1 = true := (okL_c (o139_0 hB)).2.2
theorem o139_2 (hB : BytesOK) : okL 139 4 T139_2 = true := (okL_c (o139_1 hB)).2.2
theorem o139_3 (hB : BytesOK) : okL 139 7 T139_3 = true := (okL_c (o139_2 hB)).2.2
theorem o139_4 (hB : BytesOK) : okL 139 8 T139_4 = true := (okL_c (o139_3 hB)).2.2
theorem o139_5 (hB : BytesOK) : okL 139 11 T139_5 = true := (okL_c (o139_4 hB)).2.2
theorem o139_6 (hB : BytesOK) : okL 139 14 T139_6 = true := (okL_c (o139_5 hB)).2.2
theorem o139_7 (hB : BytesOK) : okL 139 15 T139_7 = true := (okL_c (o139_6 hB)).2.2
theorem o139_8 (hB : BytesOK) : okL 139 16 T139_8 = true := (okL_c (o139_7 hB)).2.2
theorem o139_9 (hB : BytesOK) : okL 139 17 T139_9 = true := (okL_c (o139_8 hB)).2.2
theorem o139_10 (hB : BytesOK) : okL 139 20 T139_10 = true := (okL_c (o139_9 hB)).2.2
theorem o139_11 (hB : BytesOK) : okL 139 23 T139_11 = true := (okL_c (o139_10 hB)).2.2
theorem o139_12 (hB : BytesOK) : okL 139 24 T139_12 = true := (okL_c (o139_11 hB)).2.2
theorem o139_13 (hB : BytesOK) : okL 139 25 T139_13 = true := (okL_c (o139_12 hB)).2.2
theorem o139_14 (hB : BytesOK) : okL 139 28 T139_14 = true := (okL_c (o139_13 hB)).2.2
theorem ml139 : mml 139 = 3 := by decide +kernel
theorem mr139 : mret 139 = some .int := by decide +kernel
theorem mg139 : kGood 139 = true := by decide +kernel

def T171_9 : List Tok := []
def T171_8 : List Tok := (.ireturn, 1, 0, 0) :: T171_9
def T171_7 : List Tok := (.iconst 0, 1, 0, 0) :: T171_8
def T171_6 : List Tok := (.goto 4, 3, 0, 0) :: T171_7
def T171_5 : List Tok := (.iconst 1, 1, 0, 0) :: T171_6
def T171_4 : List Tok := (.if_icmp .ge 7, 3, 0, 0) :: T171_5
def T171_3 : List Tok := (.sipush 240, 3, 0, 0) :: T171_4
def T171_2 : List Tok := (.iload_n 0, 1, 0, 0) :: T171_3
def T171_1 : List Tok := (.ifCond .lt 14, 3, 0, 0) :: T171_2
def T171_0 : List Tok := (.iload_n 0, 1, 0, 0) :: T171_1
theorem o171_0 (hB : BytesOK) : okL 171 0 T171_0 = true := by
  have h := hB.1 171
  rw [show tk 171 = T171_0 from by decide +kernel] at h
  exact h
theorem o171_1 (hB : BytesOK) : okL 171 1 T171_1 = true := (okL_c (o171_0 hB)).2.2
theorem o171_2 (hB : BytesOK) : okL 171 4 T171_2 = true := (okL_c (o171_1 hB)).2.2
theorem o171_3 (hB : BytesOK) : okL 171 5 T171_3 = true := (okL_c (o171_2 hB)).2.2
theorem o171_4 (hB : BytesOK) : okL 171 8 T171_4 = true := (okL_c (o171_3 hB)).2.2
theorem o171_5 (hB : BytesOK) : okL 171 11 T171_5 = true := (okL_c (o171_4 hB)).2.2
theorem o171_6 (hB : BytesOK) : okL 171 12 T171_6 = true := (okL_c (o171_5 hB)).2.2
theorem o171_7 (hB : BytesOK) : okL 171 15 T171_7 = true := (okL_c (o171_6 hB)).2.2
theorem o171_8 (hB : BytesOK) : okL 171 16 T171_8 = true := (okL_c (o171_7 hB)).2.2
theorem ml171 : mml 171 = 1 := by decide +kernel
theorem mr171 : mret 171 = some .boolean := by decide +kernel
theorem mg171 : kGood 171 = true := by decide +kernel

def T177_23 : List Tok := []
def T177_22 : List Tok := (.ireturn, 1, 0, 0) :: T177_23
def T177_21 : List Tok := (.iconst 0, 1, 0, 0) :: T177_22
def T177_20 : List Tok := (.goto 4, 3, 0, 0) :: T177_21
def T177_19 : List Tok := (.iconst 1, 1, 0, 0) :: T177_20
def T177_18 : List Tok := (.if_icmp .ge 7, 3, 0, 0) :: T177_19
def T177_17 : List Tok := (.sipush 240, 3, 0, 0) :: T177_18
def T177_16 : List Tok := (.irem, 1, 0, 0) :: T177_17
def T177_15 : List Tok := (.sipush 1000, 3, 0, 0) :: T177_16
def T177_14 : List Tok := (.iload_n 0, 1, 0, 0) :: T177_15
def T177_13 : List Tok := (.if_icmp .ge 18, 3, 0, 0) :: T177_14
def T177_12 : List Tok := (.iconst 4, 1, 0, 0) :: T177_13
def T177_11 : List Tok := (.irem, 1, 0, 0) :: T177_12
def T177_10 : List Tok := (.bipush 10, 2, 0, 0) :: T177_11
def T177_9 : List Tok := (.idiv, 1, 0, 0) :: T177_10
def T177_8 : List Tok := (.sipush 1000, 3, 0, 0) :: T177_9
def T177_7 : List Tok := (.iload_n 0, 1, 0, 0) :: T177_8
def T177_6 : List Tok := (.if_icmp .ge 30, 3, 0, 0) :: T177_7
def T177_5 : List Tok := (.bipush 6, 2, 0, 0) :: T177_6
def T177_4 : List Tok := (.idiv, 1, 0, 0) :: T177_5
def T177_3 : List Tok := (.sipush 10000, 3, 0, 0) :: T177_4
def T177_2 : List Tok := (.iload_n 0, 1, 0, 0) :: T177_3
def T177_1 : List Tok := (.ifCond .lt 40, 3, 0, 0) :: T177_2
def T177_0 : List Tok := (.iload_n 0, 1, 0, 0) :: T177_1
theorem o177_0 (hB : BytesOK) : okL 177 0 T177_0 = true := by
  have h := hB.1 177
  rw [show tk 177 = T177_0 from by decide +kernel] at h
  exact h
theorem o177_1 (hB : BytesOK) : okL 177 1 T177_1 = true := (okL_c (o177_0 hB)).2.2
theorem o177_2 (hB : BytesOK) : okL 177 4 T177_2 = true := (okL_c (o177_1 hB)).2.2
theorem o177_3 (hB : BytesOK) : okL 177 5 T177_3 = true := (okL_c (o177_2 hB)).2.2
theorem o177_4 (hB : BytesOK) : okL 177 8 T177_4 = true := (okL_c (o177_3 hB)).2.2
theorem o177_5 (hB : BytesOK) : okL 177 9 T177_5 = true := (okL_c (o177_4 hB)).2.2
theorem o177_6 (hB : BytesOK) : okL 177 11 T177_6 = true := (okL_c (o177_5 hB)).2.2
theorem o177_7 (hB : BytesOK) : okL 177 14 T177_7 = true := (okL_c (o177_6 hB)).2.2
theorem o177_8 (hB : BytesOK) : okL 177 15 T177_8 = true := (okL_c (o177_7 hB)).2.2
theorem o177_9 (hB : BytesOK) : okL 177 18 T177_9 = true := (okL_c (o177_8 hB)).2.2
theorem o177_10 (hB : BytesOK) : okL 177 19 T177_10 = true := (okL_c (o177_9 hB)).2.2
theorem o177_11 (hB : BytesOK) : okL 177 21 T177_11 = true := (okL_c (o177_10 hB)).2.2
theorem o177_12 (hB : BytesOK) : okL 177 22 T177_12 = true := (okL_c (o177_11 hB)).2.2
theorem o177_13 (hB : BytesOK) : okL 177 23 T177_13 = true := (okL_c (o177_12 hB)).2.2
theorem o177_14 (hB : BytesOK) : okL 177 26 T177_14 = true := (okL_c (o177_13 hB)).2.2
theorem o177_15 (hB : BytesOK) : okL 177 27 T177_15 = true := (okL_c (o177_14 hB)).2.2
theorem o177_16 (hB : BytesOK) : okL 177 30 T177_16 = true := (okL_c (o177_15 hB)).2.2
theorem o177_17 (hB : BytesOK) : okL 177 31 T177_17 = true := (okL_c (o177_16 hB)).2.2
theorem o177_18 (hB : BytesOK) : okL 177 34 T177_18 = true := (okL_c (o177_17 hB)).2.2
theorem o177_19 (hB : BytesOK) : okL 177 37 T177_19 = true := (okL_c (o177_18 hB)).2.2
theorem o177_20 (hB : BytesOK) : okL 177 38 T177_20 = true := (okL_c (o177_19 hB)).2.2
theorem o177_21 (hB : BytesOK) : okL 177 41 T177_21 = true := (okL_c (o177_20 hB)).2.2
theorem o177_22 (hB : BytesOK) : okL 177 42 T177_22 = true := (okL_c (o177_21 hB)).2.2
theorem ml177 : mml 177 = 1 := by decide +kernel
theorem mr177 : mret 177 = some .boolean := by decide +kernel
theorem mg177 : kGood 177 = true := by decide +kernel

def T184_10 : List Tok := []
def T184_9 : List Tok := (.ireturn, 1, 0, 0) :: T184_10
def T184_8 : List Tok := (.iconst 0, 1, 0, 0) :: T184_9
def T184_7 : List Tok := (.goto 4, 3, 0, 0) :: T184_8
def T184_6 : List Tok := (.iconst 1, 1, 0, 0) :: T184_7
def T184_5 : List Tok := (.if_icmp .gt 7, 3, 0, 0) :: T184_6
def T184_4 : List Tok := (.iload_n 2, 1, 0, 0) :: T184_5
def T184_3 : List Tok := (.iload_n 0, 1, 0, 0) :: T184_4
def T184_2 : List Tok := (.if_icmp .lt 12, 3, 0, 0) :: T184_3
def T184_1 : List Tok := (.iload_n 1, 1, 0, 0) :: T184_2
def T184_0 : List Tok := (.iload_n 0, 1, 0, 0) :: T184_1
theorem o184_0 (hB : BytesOK) : okL 184 0 T184_0 = true := by
  have h := hB.1 184
  rw [show tk 184 = T184_0 from by decide +kernel] at h
  exact h
theorem o184_1 (hB : BytesOK) : okL 184 1 T184_1 = true := (okL_c (o184_0 hB)).2.2
theorem o184_2 (hB : BytesOK) : okL 184 2 T184_2 = true := (okL_c (o184_1 hB)).2.2
theorem o184_3 (hB : BytesOK) : okL 184 5 T184_3 = true := (okL_c (o184_2 hB)).2.2
theorem o184_4 (hB : BytesOK) : okL 184 6 T184_4 = true := (okL_c (o184_3 hB)).2.2
theorem o184_5 (hB : BytesOK) : okL 184 7 T184_5 = true := (okL_c (o184_4 hB)).2.2
theorem o184_6 (hB : BytesOK) : okL 184 10 T184_6 = true := (okL_c (o184_5 hB)).2.2
theorem o184_7 (hB : BytesOK) : okL 184 11 T184_7 = true := (okL_c (o184_6 hB)).2.2
theorem o184_8 (hB : BytesOK) : okL 184 14 T184_8 = true := (okL_c (o184_7 hB)).2.2
theorem o184_9 (hB : BytesOK) : okL 184 15 T184_9 = true := (okL_c (o184_8 hB)).2.2
theorem ml184 : mml 184 = 3 := by decide +kernel
theorem mr184 : mret 184 = some .boolean := by decide +kernel
theorem mg184 : kGood 184 = true := by decide +kernel

def T185_5 : List Tok := []
def T185_4 : List Tok := (.ireturn, 1, 0, 0) :: T185_5
def T185_3 : List Tok := (.invokestatic 64, 3, 184, 1491) :: T185_4
def T185_2 : List Tok := (.sipush 239, 3, 0, 0) :: T185_3
def T185_1 : List Tok := (.iconst 0, 1, 0, 0) :: T185_2
def T185_0 : List Tok := (.iload_n 0, 1, 0, 0) :: T185_1
theorem o185_0 (hB : BytesOK) : okL 185 0 T185_0 = true := by
  have h := hB.1 185
  rw [show tk 185 = T185_0 from by decide +kernel] at h
  exact h
theorem o185_1 (hB : BytesOK) : okL 185 1 T185_1 = true := (okL_c (o185_0 hB)).2.2
theorem o185_2 (hB : BytesOK) : okL 185 2 T185_2 = true := (okL_c (o185_1 hB)).2.2
theorem o185_3 (hB : BytesOK) : okL 185 5 T185_3 = true := (okL_c (o185_2 hB)).2.2
theorem o185_4 (hB : BytesOK) : okL 185 8 T185_4 = true := (okL_c (o185_3 hB)).2.2
theorem ml185 : mml 185 = 1 := by decide +kernel
theorem mr185 : mret 185 = some .boolean := by decide +kernel
theorem mg185 : kGood 185 = true := by decide +kernel

def T189_30 : List Tok := []
def T189_29 : List Tok := (.ireturn, 1, 0, 0) :: T189_30
def T189_28 : List Tok := (.iaload, 1, 0, 0) :: T189_29
def T189_27 : List Tok := (.iconst 0, 1, 0, 0) :: T189_28
def T189_26 : List Tok := (.getfield 7, 3, 704, 1345) :: T189_27
def T189_25 : List Tok := (.aload_n 0, 1, 0, 0) :: T189_26
def T189_24 : List Tok := (.iastore, 1, 0, 0) :: T189_25
def T189_23 : List Tok := (.iadd, 1, 0, 0) :: T189_24
def T189_22 : List Tok := (.iload_n 1, 1, 0, 0) :: T189_23
def T189_21 : List Tok := (.iaload, 1, 0, 0) :: T189_22
def T189_20 : List Tok := (.dup2, 1, 0, 0) :: T189_21
def T189_19 : List Tok := (.iconst 0, 1, 0, 0) :: T189_20
def T189_18 : List Tok := (.getfield 7, 3, 704, 1345) :: T189_19
def T189_17 : List Tok := (.aload_n 0, 1, 0, 0) :: T189_18
def T189_16 : List Tok := (.ireturn, 1, 0, 0) :: T189_17
def T189_15 : List Tok := (.bipush (-4), 2, 0, 0) :: T189_16
def T189_14 : List Tok := (.if_icmp .le 6, 3, 0, 0) :: T189_15
def T189_13 : List Tok := (.sipush 239, 3, 0, 0) :: T189_14
def T189_12 : List Tok := (.iadd, 1, 0, 0) :: T189_13
def T189_11 : List Tok := (.iload_n 1, 1, 0, 0) :: T189_12
def T189_10 : List Tok := (.iaload, 1, 0, 0) :: T189_11
def T189_9 : List Tok := (.iconst 0, 1, 0, 0) :: T189_10
def T189_8 : List Tok := (.getfield 7, 3, 704, 1345) :: T189_9
def T189_7 : List Tok := (.aload_n 0, 1, 0, 0) :: T189_8
def T189_6 : List Tok := (.ireturn, 1, 0, 0) :: T189_7
def T189_5 : List Tok := (.iconst (-1), 1, 0, 0) :: T189_6
def T189_4 : List Tok := (.ifCond .ne 5, 3, 0, 0) :: T189_5
def T189_3 : List Tok := (.invokestatic 64, 3, 184, 1491) :: T189_4
def T189_2 : List Tok := (.bipush 60, 2, 0, 0) :: T189_3
def T189_1 : List Tok := (.iconst 1, 1, 0, 0) :: T189_2
def T189_0 : List Tok := (.iload_n 1, 1, 0, 0) :: T189_1
theorem o189_0 (hB : BytesOK) : okL 189 0 T189_0 = true := by
  have h := hB.1 189
  rw [show tk 189 = T189_0 from by decide +kernel] at h
  exact h
theorem o189_1 (hB : BytesOK) : okL 189 1 T189_1 = true := (okL_c (o189_0 hB)).2.2
theorem o189_2 (hB : BytesOK) : okL 189 2 T189_2 = true := (okL_c (o189_1 hB)).2.2
theorem o189_3 (hB : BytesOK) : okL 189 4 T189_3 = true := (okL_c (o189_2 hB)).2.2
theorem o189_4 (hB : BytesOK) : okL 189 7 T189_4 = true := (okL_c (o189_3 hB)).2.2
theorem o189_5 (hB : BytesOK) : okL 189 10 T189_5 = true := (okL_c (o189_4 hB)).2.2
theorem o189_6 (hB : BytesOK) : okL 189 11 T189_6 = true := (okL_c (o189_5 hB)).2.2
theorem o189_7 (hB : BytesOK) : okL 189 12 T189_7 = true := (okL_c (o189_6 hB)).2.2
theorem o189_8 (hB : BytesOK) : okL 189 13 T189_8 = true := (okL_c (o189_7 hB)).2.2
theorem o189_9 (hB : BytesOK) : okL 189 16 T189_9 = true := (okL_c (o189_8 hB)).2.2
theorem o189_10 (hB : BytesOK) : okL 189 17 T189_10 = true := (okL_c (o189_9 hB)).2.2
theorem o189_11 (hB : BytesOK) : okL 189 18 T189_11 = true := (okL_c (o189_10 hB)).2.2
theorem o189_12 (hB : BytesOK) : okL 189 19 T189_12 = true := (okL_c (o189_11 hB)).2.2
theorem o189_13 (hB : BytesOK) : okL 189 20 T189_13 = true := (okL_c (o189_12 hB)).2.2
theorem o189_14 (hB : BytesOK) : okL 189 23 T189_14 = true := (okL_c (o189_13 hB)).2.2
theorem o189_15 (hB : BytesOK) : okL 189 26 T189_15 = true := (okL_c (o189_14 hB)).2.2
theorem o189_16 (hB : BytesOK) : okL 189 28 T189_16 = true := (okL_c (o189_15 hB)).2.2
theorem o189_17 (hB : BytesOK) : okL 189 29 T189_17 = true := (okL_c (o189_16 hB)).2.2
theorem o189_18 (hB : BytesOK) : okL 189 30 T189_18 = true := (okL_c (o189_17 hB)).2.2
theorem o189_19 (hB : BytesOK) : okL 189 33 T189_19 = true := (okL_c (o189_18 hB)).2.2
theorem o189_20 (hB : BytesOK) : okL 189 34 T189_20 = true := (okL_c (o189_19 hB)).2.2
theorem o189_21 (hB : BytesOK) : okL 189 35 T189_21 = true := (okL_c (o189_20 hB)).2.2
theorem o189_22 (hB : BytesOK) : okL 189 36 T189_22 = true := (okL_c (o189_21 hB)).2.2
theorem o189_23 (hB : BytesOK) : okL 189 37 T189_23 = true := (okL_c (o189_22 hB)).2.2
theorem o189_24 (hB : BytesOK) : okL 189 38 T189_24 = true := (okL_c (o189_23 hB)).2.2
theorem o189_25 (hB : BytesOK) : okL 189 39 T189_25 = true := (okL_c (o189_24 hB)).2.2
theorem o189_26 (hB : BytesOK) : okL 189 40 T189_26 = true := (okL_c (o189_25 hB)).2.2
theorem o189_27 (hB : BytesOK) : okL 189 43 T189_27 = true := (okL_c (o189_26 hB)).2.2
theorem o189_28 (hB : BytesOK) : okL 189 44 T189_28 = true := (okL_c (o189_27 hB)).2.2
theorem o189_29 (hB : BytesOK) : okL 189 45 T189_29 = true := (okL_c (o189_28 hB)).2.2
theorem ml189 : mml 189 = 2 := by decide +kernel
theorem mr189 : mret 189 = some .int := by decide +kernel
theorem mg189 : kGood 189 = true := by decide +kernel

def T229_21 : List Tok := []
def T229_20 : List Tok := (.ireturn, 1, 0, 0) :: T229_21
def T229_19 : List Tok := (.iconst 0, 1, 0, 0) :: T229_20
def T229_18 : List Tok := (.goto 4, 3, 0, 0) :: T229_19
def T229_17 : List Tok := (.iconst 1, 1, 0, 0) :: T229_18
def T229_16 : List Tok := (.ifCond .eq 7, 3, 0, 0) :: T229_17
def T229_15 : List Tok := (.invokestatic 72, 3, 185, 1501) :: T229_16
def T229_14 : List Tok := (.irem, 1, 0, 0) :: T229_15
def T229_13 : List Tok := (.sipush 1000, 3, 0, 0) :: T229_14
def T229_12 : List Tok := (.iload_n 0, 1, 0, 0) :: T229_13
def T229_11 : List Tok := (.if_icmp .ge 18, 3, 0, 0) :: T229_12
def T229_10 : List Tok := (.iconst 4, 1, 0, 0) :: T229_11
def T229_9 : List Tok := (.irem, 1, 0, 0) :: T229_10
def T229_8 : List Tok := (.bipush 10, 2, 0, 0) :: T229_9
def T229_7 : List Tok := (.idiv, 1, 0, 0) :: T229_8
def T229_6 : List Tok := (.sipush 1000, 3, 0, 0) :: T229_7
def T229_5 : List Tok := (.iload_n 0, 1, 0, 0) :: T229_6
def T229_4 : List Tok := (.ifCond .eq 30, 3, 0, 0) :: T229_5
def T229_3 : List Tok := (.invokestatic 64, 3, 184, 1491) :: T229_4
def T229_2 : List Tok := (.ldc 221, 2, 14, 1663) :: T229_3
def T229_1 : List Tok := (.iconst 0, 1, 0, 0) :: T229_2
def T229_0 : List Tok := (.iload_n 0, 1, 0, 0) :: T229_1
theorem o229_0 (hB : BytesOK) : okL 229 0 T229_0 = true := by
  have h := hB.1 229
  rw [show tk 229 = T229_0 from by decide +kernel] at h
  exact h
theorem o229_1 (hB : BytesOK) : okL 229 1 T229_1 = true := (okL_c (o229_0 hB)).2.2
theorem o229_2 (hB : BytesOK) : okL 229 2 T229_2 = true := (okL_c (o229_1 hB)).2.2
theorem o229_3 (hB : BytesOK) : okL 229 4 T229_3 = true := (okL_c (o229_2 hB)).2.2
theorem o229_4 (hB : BytesOK) : okL 229 7 T229_4 = true := (okL_c (o229_3 hB)).2.2
theorem o229_5 (hB : BytesOK) : okL 229 10 T229_5 = true := (okL_c (o229_4 hB)).2.2
theorem o229_6 (hB : BytesOK) : okL 229 11 T229_6 = true := (okL_c (o229_5 hB)).2.2
theorem o229_7 (hB : BytesOK) : okL 229 14 T229_7 = true := (okL_c (o229_6 hB)).2.2
theorem o229_8 (hB : BytesOK) : okL 229 15 T229_8 = true := (okL_c (o229_7 hB)).2.2
theorem o229_9 (hB : BytesOK) : okL 229 17 T229_9 = true := (okL_c (o229_8 hB)).2.2
theorem o229_10 (hB : BytesOK) : okL 229 18 T229_10 = true := (okL_c (o229_9 hB)).2.2
theorem o229_11 (hB : BytesOK) : okL 229 19 T229_11 = true := (okL_c (o229_10 hB)).2.2
theorem o229_12 (hB : BytesOK) : okL 229 22 T229_12 = true := (okL_c (o229_11 hB)).2.2
theorem o229_13 (hB : BytesOK) : okL 229 23 T229_13 = true := (okL_c (o229_12 hB)).2.2
theorem o229_14 (hB : BytesOK) : okL 229 26 T229_14 = true := (okL_c (o229_13 hB)).2.2
theorem o229_15 (hB : BytesOK) : okL 229 27 T229_15 = true := (okL_c (o229_14 hB)).2.2
theorem o229_16 (hB : BytesOK) : okL 229 30 T229_16 = true := (okL_c (o229_15 hB)).2.2
theorem o229_17 (hB : BytesOK) : okL 229 33 T229_17 = true := (okL_c (o229_16 hB)).2.2
theorem o229_18 (hB : BytesOK) : okL 229 34 T229_18 = true := (okL_c (o229_17 hB)).2.2
theorem o229_19 (hB : BytesOK) : okL 229 37 T229_19 = true := (okL_c (o229_18 hB)).2.2
theorem o229_20 (hB : BytesOK) : okL 229 38 T229_20 = true := (okL_c (o229_19 hB)).2.2
theorem ml229 : mml 229 = 1 := by decide +kernel
theorem mr229 : mret 229 = some .boolean := by decide +kernel
theorem mg229 : kGood 229 = true := by decide +kernel

def T230_94 : List Tok := []
def T230_93 : List Tok := (.ireturn, 1, 0, 0) :: T230_94
def T230_92 : List Tok := (.isub, 1, 0, 0) :: T230_93
def T230_91 : List Tok := (.iconst 1, 1, 0, 0) :: T230_92
def T230_90 : List Tok := (.iaload, 1, 0, 0) :: T230_91
def T230_89 : List Tok := (.iconst 5, 1, 0, 0) :: T230_90
def T230_88 : List Tok := (.getfield 7, 3, 704, 1345) :: T230_89
def T230_87 : List Tok := (.aload_n 0, 1, 0, 0) :: T230_88
def T230_86 : List Tok := (.iastore, 1, 0, 0) :: T230_87
def T230_85 : List Tok := (.iadd, 1, 0, 0) :: T230_86
def T230_84 : List Tok := (.iconst 1, 1, 0, 0) :: T230_85
def T230_83 : List Tok := (.iaload, 1, 0, 0) :: T230_84
def T230_82 : List Tok := (.dup2, 1, 0, 0) :: T230_83
def T230_81 : List Tok := (.iconst 5, 1, 0, 0) :: T230_82
def T230_80 : List Tok := (.getfield 7, 3, 704, 1345) :: T230_81
def T230_79 : List Tok := (.aload_n 0, 1, 0, 0) :: T230_80
def T230_78 : List Tok := (.iastore, 1, 0, 0) :: T230_79
def T230_77 : List Tok := (.iaload, 1, 0, 0) :: T230_78
def T230_76 : List Tok := (.iconst 0, 1, 0, 0) :: T230_77
def T230_75 : List Tok := (.getfield 7, 3, 704, 1345) :: T230_76
def T230_74 : List Tok := (.aload_n 0, 1, 0, 0) :: T230_75
def T230_73 : List Tok := (.iadd, 1, 0, 0) :: T230_74
def T230_72 : List Tok := (.iconst 4, 1, 0, 0) :: T230_73
def T230_71 : List Tok := (.iload_n 3, 1, 0, 0) :: T230_72
def T230_70 : List Tok := (.getfield 7, 3, 704, 1345) :: T230_71
def T230_69 : List Tok := (.aload_n 0, 1, 0, 0) :: T230_70
def T230_68 : List Tok := (.iastore, 1, 0, 0) :: T230_69
def T230_67 : List Tok := (.iload_n 2, 1, 0, 0) :: T230_68
def T230_66 : List Tok := (.iadd, 1, 0, 0) :: T230_67
def T230_65 : List Tok := (.iconst 3, 1, 0, 0) :: T230_66
def T230_64 : List Tok := (.iload_n 3, 1, 0, 0) :: T230_65
def T230_63 : List Tok := (.getfield 7, 3, 704, 1345) :: T230_64
def T230_62 : List Tok := (.aload_n 0, 1, 0, 0) :: T230_63
def T230_61 : List Tok := (.iastore, 1, 0, 0) :: T230_62
def T230_60 : List Tok := (.irem, 1, 0, 0) :: T230_61
def T230_59 : List Tok := (.sipush 1000, 3, 0, 0) :: T230_60
def T230_58 : List Tok := (.iload_n 1, 1, 0, 0) :: T230_59
def T230_57 : List Tok := (.iadd, 1, 0, 0) :: T230_58
def T230_56 : List Tok := (.iconst 2, 1, 0, 0) :: T230_57
def T230_55 : List Tok := (.iload_n 3, 1, 0, 0) :: T230_56
def T230_54 : List Tok := (.getfield 7, 3, 704, 1345) :: T230_55
def T230_53 : List Tok := (.aload_n 0, 1, 0, 0) :: T230_54
def T230_52 : List Tok := (.iastore, 1, 0, 0) :: T230_53
def T230_51 : List Tok := (.irem, 1, 0, 0) :: T230_52
def T230_50 : List Tok := (.bipush 10, 2, 0, 0) :: T230_51
def T230_49 : List Tok := (.idiv, 1, 0, 0) :: T230_50
def T230_48 : List Tok := (.sipush 1000, 3, 0, 0) :: T230_49
def T230_47 : List Tok := (.iload_n 1, 1, 0, 0) :: T230_48
def T230_46 : List Tok := (.iadd, 1, 0, 0) :: T230_47
def T230_45 : List Tok := (.iconst 1, 1, 0, 0) :: T230_46
def T230_44 : List Tok := (.iload_n 3, 1, 0, 0) :: T230_45
def T230_43 : List Tok := (.getfield 7, 3, 704, 1345) :: T230_44
def T230_42 : List Tok := (.aload_n 0, 1, 0, 0) :: T230_43
def T230_41 : List Tok := (.iastore, 1, 0, 0) :: T230_42
def T230_40 : List Tok := (.idiv, 1, 0, 0) :: T230_41
def T230_39 : List Tok := (.sipush 10000, 3, 0, 0) :: T230_40
def T230_38 : List Tok := (.iload_n 1, 1, 0, 0) :: T230_39
def T230_37 : List Tok := (.iload_n 3, 1, 0, 0) :: T230_38
def T230_36 : List Tok := (.getfield 7, 3, 704, 1345) :: T230_37
def T230_35 : List Tok := (.aload_n 0, 1, 0, 0) :: T230_36
def T230_34 : List Tok := (.istore_n 3, 1, 0, 0) :: T230_35
def T230_33 : List Tok := (.iadd, 1, 0, 0) :: T230_34
def T230_32 : List Tok := (.imul, 1, 0, 0) :: T230_33
def T230_31 : List Tok := (.iaload, 1, 0, 0) :: T230_32
def T230_30 : List Tok := (.iconst 5, 1, 0, 0) :: T230_31
def T230_29 : List Tok := (.getfield 7, 3, 704, 1345) :: T230_30
def T230_28 : List Tok := (.aload_n 0, 1, 0, 0) :: T230_29
def T230_27 : List Tok := (.iconst 5, 1, 0, 0) :: T230_28
def T230_26 : List Tok := (.sipush 306, 3, 0, 0) :: T230_27
def T230_25 : List Tok := (.ireturn, 1, 0, 0) :: T230_26
def T230_24 : List Tok := (.bipush (-2), 2, 0, 0) :: T230_25
def T230_23 : List Tok := (.if_icmp .ne 6, 3, 0, 0) :: T230_24
def T230_22 : List Tok := (.bipush 24, 2, 0, 0) :: T230_23
def T230_21 : List Tok := (.iaload, 1, 0, 0) :: T230_22
def T230_20 : List Tok := (.iconst 5, 1, 0, 0) :: T230_21
def T230_19 : List Tok := (.getfield 7, 3, 704, 1345) :: T230_20
def T230_18 : List Tok := (.aload_n 0, 1, 0, 0) :: T230_19
def T230_17 : List Tok := (.ireturn, 1, 0, 0) :: T230_18
def T230_16 : List Tok := (.iconst (-1), 1, 0, 0) :: T230_17
def T230_15 : List Tok := (.ifCond .ne 5, 3, 0, 0) :: T230_16
def T230_14 : List Tok := (.invokestatic 64, 3, 184, 1491) :: T230_15
def T230_13 : List Tok := (.sipush 999, 3, 0, 0) :: T230_14
def T230_12 : List Tok := (.iconst 1, 1, 0, 0) :: T230_13
def T230_11 : List Tok := (.iload_n 2, 1, 0, 0) :: T230_12
def T230_10 : List Tok := (.if_icmp .gt 14, 3, 0, 0) :: T230_11
def T230_9 : List Tok := (.iaload, 1, 0, 0) :: T230_10
def T230_8 : List Tok := (.iconst 0, 1, 0, 0) :: T230_9
def T230_7 : List Tok := (.getfield 7, 3, 704, 1345) :: T230_8
def T230_6 : List Tok := (.aload_n 0, 1, 0, 0) :: T230_7
def T230_5 : List Tok := (.irem, 1, 0, 0) :: T230_6
def T230_4 : List Tok := (.sipush 1000, 3, 0, 0) :: T230_5
def T230_3 : List Tok := (.iload_n 1, 1, 0, 0) :: T230_4
def T230_2 : List Tok := (.ifCond .eq 28, 3, 0, 0) :: T230_3
def T230_1 : List Tok := (.invokestatic 222, 3, 229, 1660) :: T230_2
def T230_0 : List Tok := (.iload_n 1, 1, 0, 0) :: T230_1
theorem o230_0 (hB : BytesOK) : okL 230 0 T230_0 = true := by
  have h := hB.1 230
  rw [show tk 230 = T230_0 from by decide +kernel] at h
  exact h
theorem o230_1 (hB : BytesOK) : okL 230 1 T230_1 = true := (okL_c (o230_0 hB)).2.2
theorem o230_2 (hB : BytesOK) : okL 230 4 T230_2 = true := (okL_c (o230_1 hB)).2.2
theorem o230_3 (hB : BytesOK) : okL 230 7 T230_3 = true := (okL_c (o230_2 hB)).2.2
theorem o230_4 (hB : BytesOK) : okL 230 8 T230_4 = true := (okL_c (o230_3 hB)).2.2
theorem o230_5 (hB : BytesOK) : okL 230 11 T230_5 = true := (okL_c (o230_4 hB)).2.2
theorem o230_6 (hB : BytesOK) : okL 230 12 T230_6 = true := (okL_c (o230_5 hB)).2.2
theorem o230_7 (hB : BytesOK) : okL 230 13 T230_7 = true := (okL_c (o230_6 hB)).2.2
theorem o230_8 (hB : BytesOK) : okL 230 16 T230_8 = true := (okL_c (o230_7 hB)).2.2
theorem o230_9 (hB : BytesOK) : okL 230 17 T230_9 = true := (okL_c (o230_8 hB)).2.2
theorem o230_10 (hB : BytesOK) : okL 230 18 T230_10 = true := (okL_c (o230_9 hB)).2.2
theorem o230_11 (hB : BytesOK) : okL 230 21 T230_11 = true := (okL_c (o230_10 hB)).2.2
theorem o230_12 (hB : BytesOK) : okL 230 22 T230_12 = true := (okL_c (o230_11 hB)).2.2
theorem o230_13 (hB : BytesOK) : okL 230 23 T230_13 = true := (okL_c (o230_12 hB)).2.2
theorem o230_14 (hB : BytesOK) : okL 230 26 T230_14 = true := (okL_c (o230_13 hB)).2.2
theorem o230_15 (hB : BytesOK) : okL 230 29 T230_15 = true := (okL_c (o230_14 hB)).2.2
theorem o230_16 (hB : BytesOK) : okL 230 32 T230_16 = true := (okL_c (o230_15 hB)).2.2
theorem o230_17 (hB : BytesOK) : okL 230 33 T230_17 = true := (okL_c (o230_16 hB)).2.2
theorem o230_18 (hB : BytesOK) : okL 230 34 T230_18 = true := (okL_c (o230_17 hB)).2.2
theorem o230_19 (hB : BytesOK) : okL 230 35 T230_19 = true := (okL_c (o230_18 hB)).2.2
theorem o230_20 (hB : BytesOK) : okL 230 38 T230_20 = true := (okL_c (o230_19 hB)).2.2
theorem o230_21 (hB : BytesOK) : okL 230 39 T230_21 = true := (okL_c (o230_20 hB)).2.2
theorem o230_22 (hB : BytesOK) : okL 230 40 T230_22 = true := (okL_c (o230_21 hB)).2.2
theorem o230_23 (hB : BytesOK) : okL 230 42 T230_23 = true := (okL_c (o230_22 hB)).2.2
theorem o230_24 (hB : BytesOK) : okL 230 45 T230_24 = true := (okL_c (o230_23 hB)).2.2
theorem o230_25 (hB : BytesOK) : okL 230 47 T230_25 = true := (okL_c (o230_24 hB)).2.2
theorem o230_26 (hB : BytesOK) : okL 230 48 T230_26 = true := (okL_c (o230_25 hB)).2.2
theorem o230_27 (hB : BytesOK) : okL 230 51 T230_27 = true := (okL_c (o230_26 hB)).2.2
theorem o230_28 (hB : BytesOK) : okL 230 52 T230_28 = true := (okL_c (o230_27 hB)).2.2
theorem o230_29 (hB : BytesOK) : okL 230 53 T230_29 = true := (okL_c (o230_28 hB)).2.2
theorem o230_30 (hB : BytesOK) : okL 230 56 T230_30 = true := (okL_c (o230_29 hB)).2.2
theorem o230_31 (hB : BytesOK) : okL 230 57 T230_31 = true := (okL_c (o230_30 hB)).2.2
theorem o230_32 (hB : BytesOK) : okL 230 58 T230_32 = true := (okL_c (o230_31 hB)).2.2
theorem o230_33 (hB : BytesOK) : okL 230 59 T230_33 = true := (okL_c (o230_32 hB)).2.2
theorem o230_34 (hB : BytesOK) : okL 230 60 T230_34 = true := (okL_c (o230_33 hB)).2.2
theorem o230_35 (hB : BytesOK) : okL 230 61 T230_35 = true := (okL_c (o230_34 hB)).2.2
theorem o230_36 (hB : BytesOK) : okL 230 62 T230_36 = true := (okL_c (o230_35 hB)).2.2
theorem o230_37 (hB : BytesOK) : okL 230 65 T230_37 = true := (okL_c (o230_36 hB)).2.2
theorem o230_38 (hB : BytesOK) : okL 230 66 T230_38 = true := (okL_c (o230_37 hB)).2.2
theorem o230_39 (hB : BytesOK) : okL 230 67 T230_39 = true := (okL_c (o230_38 hB)).2.2
theorem o230_40 (hB : BytesOK) : okL 230 70 T230_40 = true := (okL_c (o230_39 hB)).2.2
theorem o230_41 (hB : BytesOK) : okL 230 71 T230_41 = true := (okL_c (o230_40 hB)).2.2
theorem o230_42 (hB : BytesOK) : okL 230 72 T230_42 = true := (okL_c (o230_41 hB)).2.2
theorem o230_43 (hB : BytesOK) : okL 230 73 T230_43 = true := (okL_c (o230_42 hB)).2.2
theorem o230_44 (hB : BytesOK) : okL 230 76 T230_44 = true := (okL_c (o230_43 hB)).2.2
theorem o230_45 (hB : BytesOK) : okL 230 77 T230_45 = true := (okL_c (o230_44 hB)).2.2
theorem o230_46 (hB : BytesOK) : okL 230 78 T230_46 = true := (okL_c (o230_45 hB)).2.2
theorem o230_47 (hB : BytesOK) : okL 230 79 T230_47 = true := (okL_c (o230_46 hB)).2.2
theorem o230_48 (hB : BytesOK) : okL 230 80 T230_48 = true := (okL_c (o230_47 hB)).2.2
theorem o230_49 (hB : BytesOK) : okL 230 83 T230_49 = true := (okL_c (o230_48 hB)).2.2
theorem o230_50 (hB : BytesOK) : okL 230 84 T230_50 = true := (okL_c (o230_49 hB)).2.2
theorem o230_51 (hB : BytesOK) : okL 230 86 T230_51 = true := (okL_c (o230_50 hB)).2.2
theorem o230_52 (hB : BytesOK) : okL 230 87 T230_52 = true := (okL_c (o230_51 hB)).2.2
theorem o230_53 (hB : BytesOK) : okL 230 88 T230_53 = true := (okL_c (o230_52 hB)).2.2
theorem o230_54 (hB : BytesOK) : okL 230 89 T230_54 = true := (okL_c (o230_53 hB)).2.2
theorem o230_55 (hB : BytesOK) : okL 230 92 T230_55 = true := (okL_c (o230_54 hB)).2.2
theorem o230_56 (hB : BytesOK) : okL 230 93 T230_56 = true := (okL_c (o230_55 hB)).2.2
theorem o230_57 (hB : BytesOK) : okL 230 94 T230_57 = true := (okL_c (o230_56 hB)).2.2
theorem o230_58 (hB : BytesOK) : okL 230 95 T230_58 = true := (okL_c (o230_57 hB)).2.2
theorem o230_59 (hB : BytesOK) : okL 230 96 T230_59 = true := (okL_c (o230_58 hB)).2.2
theorem o230_60 (hB : BytesOK) : okL 230 99 T230_60 = true := (okL_c (o230_59 hB)).2.2
theorem o230_61 (hB : BytesOK) : okL 230 100 T230_61 = true := (okL_c (o230_60 hB)).2.2
theorem o230_62 (hB : BytesOK) : okL 230 101 T230_62 = true := (okL_c (o230_61 hB)).2.2
theorem o230_63 (hB : BytesOK) : okL 230 102 T230_63 = true := (okL_c (o230_62 hB)).2.2
theorem o230_64 (hB : BytesOK) : okL 230 105 T230_64 = true := (okL_c (o230_63 hB)).2.2
theorem o230_65 (hB : BytesOK) : okL 230 106 T230_65 = true := (okL_c (o230_64 hB)).2.2
theorem o230_66 (hB : BytesOK) : okL 230 107 T230_66 = true := (okL_c (o230_65 hB)).2.2
theorem o230_67 (hB : BytesOK) : okL 230 108 T230_67 = true := (okL_c (o230_66 hB)).2.2
theorem o230_68 (hB : BytesOK) : okL 230 109 T230_68 = true := (okL_c (o230_67 hB)).2.2
theorem o230_69 (hB : BytesOK) : okL 230 110 T230_69 = true := (okL_c (o230_68 hB)).2.2
theorem o230_70 (hB : BytesOK) : okL 230 111 T230_70 = true := (okL_c (o230_69 hB)).2.2
theorem o230_71 (hB : BytesOK) : okL 230 114 T230_71 = true := (okL_c (o230_70 hB)).2.2
theorem o230_72 (hB : BytesOK) : okL 230 115 T230_72 = true := (okL_c (o230_71 hB)).2.2
theorem o230_73 (hB : BytesOK) : okL 230 116 T230_73 = true := (okL_c (o230_72 hB)).2.2
theorem o230_74 (hB : BytesOK) : okL 230 117 T230_74 = true := (okL_c (o230_73 hB)).2.2
theorem o230_75 (hB : BytesOK) : okL 230 118 T230_75 = true := (okL_c (o230_74 hB)).2.2
theorem o230_76 (hB : BytesOK) : okL 230 121 T230_76 = true := (okL_c (o230_75 hB)).2.2
theorem o230_77 (hB : BytesOK) : okL 230 122 T230_77 = true := (okL_c (o230_76 hB)).2.2
theorem o230_78 (hB : BytesOK) : okL 230 123 T230_78 = true := (okL_c (o230_77 hB)).2.2
theorem o230_79 (hB : BytesOK) : okL 230 124 T230_79 = true := (okL_c (o230_78 hB)).2.2
theorem o230_80 (hB : BytesOK) : okL 230 125 T230_80 = true := (okL_c (o230_79 hB)).2.2
theorem o230_81 (hB : BytesOK) : okL 230 128 T230_81 = true := (okL_c (o230_80 hB)).2.2
theorem o230_82 (hB : BytesOK) : okL 230 129 T230_82 = true := (okL_c (o230_81 hB)).2.2
theorem o230_83 (hB : BytesOK) : okL 230 130 T230_83 = true := (okL_c (o230_82 hB)).2.2
theorem o230_84 (hB : BytesOK) : okL 230 131 T230_84 = true := (okL_c (o230_83 hB)).2.2
theorem o230_85 (hB : BytesOK) : okL 230 132 T230_85 = true := (okL_c (o230_84 hB)).2.2
theorem o230_86 (hB : BytesOK) : okL 230 133 T230_86 = true := (okL_c (o230_85 hB)).2.2
theorem o230_87 (hB : BytesOK) : okL 230 134 T230_87 = true := (okL_c (o230_86 hB)).2.2
theorem o230_88 (hB : BytesOK) : okL 230 135 T230_88 = true := (okL_c (o230_87 hB)).2.2
theorem o230_89 (hB : BytesOK) : okL 230 138 T230_89 = true := (okL_c (o230_88 hB)).2.2
theorem o230_90 (hB : BytesOK) : okL 230 139 T230_90 = true := (okL_c (o230_89 hB)).2.2
theorem o230_91 (hB : BytesOK) : okL 230 140 T230_91 = true := (okL_c (o230_90 hB)).2.2
theorem o230_92 (hB : BytesOK) : okL 230 141 T230_92 = true := (okL_c (o230_91 hB)).2.2
theorem o230_93 (hB : BytesOK) : okL 230 142 T230_93 = true := (okL_c (o230_92 hB)).2.2
theorem ml230 : mml 230 = 4 := by decide +kernel
theorem mr230 : mret 230 = some .int := by decide +kernel
theorem mg230 : kGood 230 = true := by decide +kernel

def T231_61 : List Tok := []
def T231_60 : List Tok := (.ireturn, 1, 0, 0) :: T231_61
def T231_59 : List Tok := (.iload 5, 2, 0, 0) :: T231_60
def T231_58 : List Tok := (.goto (-93), 3, 0, 0) :: T231_59
def T231_57 : List Tok := (.iinc 6 1, 3, 0, 0) :: T231_58
def T231_56 : List Tok := (.istore 5, 2, 0, 0) :: T231_57
def T231_55 : List Tok := (.iadd, 1, 0, 0) :: T231_56
def T231_54 : List Tok := (.iconst 0, 1, 0, 0) :: T231_55
def T231_53 : List Tok := (.goto 4, 3, 0, 0) :: T231_54
def T231_52 : List Tok := (.iaload, 1, 0, 0) :: T231_53
def T231_51 : List Tok := (.iadd, 1, 0, 0) :: T231_52
def T231_50 : List Tok := (.iconst 3, 1, 0, 0) :: T231_51
def T231_49 : List Tok := (.iload 7, 2, 0, 0) :: T231_50
def T231_48 : List Tok := (.getfield 7, 3, 704, 1345) :: T231_49
def T231_47 : List Tok := (.aload_n 0, 1, 0, 0) :: T231_48
def T231_46 : List Tok := (.if_icmp .gt 15, 3, 0, 0) :: T231_47
def T231_45 : List Tok := (.iload 4, 2, 0, 0) :: T231_46
def T231_44 : List Tok := (.iaload, 1, 0, 0) :: T231_45
def T231_43 : List Tok := (.iadd, 1, 0, 0) :: T231_44
def T231_42 : List Tok := (.iconst 4, 1, 0, 0) :: T231_43
def T231_41 : List Tok := (.iload 7, 2, 0, 0) :: T231_42
def T231_40 : List Tok := (.getfield 7, 3, 704, 1345) :: T231_41
def T231_39 : List Tok := (.aload_n 0, 1, 0, 0) :: T231_40
def T231_38 : List Tok := (.if_icmp .ne 29, 3, 0, 0) :: T231_39
def T231_37 : List Tok := (.iload_n 3, 1, 0, 0) :: T231_38
def T231_36 : List Tok := (.iaload, 1, 0, 0) :: T231_37
def T231_35 : List Tok := (.iadd, 1, 0, 0) :: T231_36
def T231_34 : List Tok := (.iconst 2, 1, 0, 0) :: T231_35
def T231_33 : List Tok := (.iload 7, 2, 0, 0) :: T231_34
def T231_32 : List Tok := (.getfield 7, 3, 704, 1345) :: T231_33
def T231_31 : List Tok := (.aload_n 0, 1, 0, 0) :: T231_32
def T231_30 : List Tok := (.if_icmp .ne 42, 3, 0, 0) :: T231_31
def T231_29 : List Tok := (.iload_n 2, 1, 0, 0) :: T231_30
def T231_28 : List Tok := (.iaload, 1, 0, 0) :: T231_29
def T231_27 : List Tok := (.iadd, 1, 0, 0) :: T231_28
def T231_26 : List Tok := (.iconst 1, 1, 0, 0) :: T231_27
def T231_25 : List Tok := (.iload 7, 2, 0, 0) :: T231_26
def T231_24 : List Tok := (.getfield 7, 3, 704, 1345) :: T231_25
def T231_23 : List Tok := (.aload_n 0, 1, 0, 0) :: T231_24
def T231_22 : List Tok := (.if_icmp .ne 55, 3, 0, 0) :: T231_23
def T231_21 : List Tok := (.iload_n 1, 1, 0, 0) :: T231_22
def T231_20 : List Tok := (.iaload, 1, 0, 0) :: T231_21
def T231_19 : List Tok := (.iload 7, 2, 0, 0) :: T231_20
def T231_18 : List Tok := (.getfield 7, 3, 704, 1345) :: T231_19
def T231_17 : List Tok := (.aload_n 0, 1, 0, 0) :: T231_18
def T231_16 : List Tok := (.iload 5, 2, 0, 0) :: T231_17
def T231_15 : List Tok := (.istore 7, 2, 0, 0) :: T231_16
def T231_14 : List Tok := (.iadd, 1, 0, 0) :: T231_15
def T231_13 : List Tok := (.imul, 1, 0, 0) :: T231_14
def T231_12 : List Tok := (.iload 6, 2, 0, 0) :: T231_13
def T231_11 : List Tok := (.iconst 5, 1, 0, 0) :: T231_12
def T231_10 : List Tok := (.sipush 306, 3, 0, 0) :: T231_11
def T231_9 : List Tok := (.if_icmp .ge 88, 3, 0, 0) :: T231_10
def T231_8 : List Tok := (.iaload, 1, 0, 0) :: T231_9
def T231_7 : List Tok := (.iconst 5, 1, 0, 0) :: T231_8
def T231_6 : List Tok := (.getfield 7, 3, 704, 1345) :: T231_7
def T231_5 : List Tok := (.aload_n 0, 1, 0, 0) :: T231_6
def T231_4 : List Tok := (.iload 6, 2, 0, 0) :: T231_5
def T231_3 : List Tok := (.istore 6, 2, 0, 0) :: T231_4
def T231_2 : List Tok := (.iconst 0, 1, 0, 0) :: T231_3
def T231_1 : List Tok := (.istore 5, 2, 0, 0) :: T231_2
def T231_0 : List Tok := (.iconst 0, 1, 0, 0) :: T231_1
theorem o231_0 (hB : BytesOK) : okL 231 0 T231_0 = true := by
  have h := hB.1 231
  rw [show tk 231 = T231_0 from by decide +kernel] at h
  exact h
theorem o231_1 (hB : BytesOK) : okL 231 1 T231_1 = true := (okL_c (o231_0 hB)).2.2
theorem o231_2 (hB : BytesOK) : okL 231 3 T231_2 = true := (okL_c (o231_1 hB)).2.2
theorem o231_3 (hB : BytesOK) : okL 231 4 T231_3 = true := (okL_c (o231_2 hB)).2.2
theorem o231_4 (hB : BytesOK) : okL 231 6 T231_4 = true := (okL_c (o231_3 hB)).2.2
theorem o231_5 (hB : BytesOK) : okL 231 8 T231_5 = true := (okL_c (o231_4 hB)).2.2
theorem o231_6 (hB : BytesOK) : okL 231 9 T231_6 = true := (okL_c (o231_5 hB)).2.2
theorem o231_7 (hB : BytesOK) : okL 231 12 T231_7 = true := (okL_c (o231_6 hB)).2.2
theorem o231_8 (hB : BytesOK) : okL 231 13 T231_8 = true := (okL_c (o231_7 hB)).2.2
theorem o231_9 (hB : BytesOK) : okL 231 14 T231_9 = true := (okL_c (o231_8 hB)).2.2
theorem o231_10 (hB : BytesOK) : okL 231 17 T231_10 = true := (okL_c (o231_9 hB)).2.2
theorem o231_11 (hB : BytesOK) : okL 231 20 T231_11 = true := (okL_c (o231_10 hB)).2.2
theorem o231_12 (hB : BytesOK) : okL 231 21 T231_12 = true := (okL_c (o231_11 hB)).2.2
theorem o231_13 (hB : BytesOK) : okL 231 23 T231_13 = true := (okL_c (o231_12 hB)).2.2
theorem o231_14 (hB : BytesOK) : okL 231 24 T231_14 = true := (okL_c (o231_13 hB)).2.2
theorem o231_15 (hB : BytesOK) : okL 231 25 T231_15 = true := (okL_c (o231_14 hB)).2.2
theorem o231_16 (hB : BytesOK) : okL 231 27 T231_16 = true := (okL_c (o231_15 hB)).2.2
theorem o231_17 (hB : BytesOK) : okL 231 29 T231_17 = true := (okL_c (o231_16 hB)).2.2
theorem o231_18 (hB : BytesOK) : okL 231 30 T231_18 = true := (okL_c (o231_17 hB)).2.2
theorem o231_19 (hB : BytesOK) : okL 231 33 T231_19 = true := (okL_c (o231_18 hB)).2.2
theorem o231_20 (hB : BytesOK) : okL 231 35 T231_20 = true := (okL_c (o231_19 hB)).2.2
theorem o231_21 (hB : BytesOK) : okL 231 36 T231_21 = true := (okL_c (o231_20 hB)).2.2
theorem o231_22 (hB : BytesOK) : okL 231 37 T231_22 = true := (okL_c (o231_21 hB)).2.2
theorem o231_23 (hB : BytesOK) : okL 231 40 T231_23 = true := (okL_c (o231_22 hB)).2.2
theorem o231_24 (hB : BytesOK) : okL 231 41 T231_24 = true := (okL_c (o231_23 hB)).2.2
theorem o231_25 (hB : BytesOK) : okL 231 44 T231_25 = true := (okL_c (o231_24 hB)).2.2
theorem o231_26 (hB : BytesOK) : okL 231 46 T231_26 = true := (okL_c (o231_25 hB)).2.2
theorem o231_27 (hB : BytesOK) : okL 231 47 T231_27 = true := (okL_c (o231_26 hB)).2.2
theorem o231_28 (hB : BytesOK) : okL 231 48 T231_28 = true := (okL_c (o231_27 hB)).2.2
theorem o231_29 (hB : BytesOK) : okL 231 49 T231_29 = true := (okL_c (o231_28 hB)).2.2
theorem o231_30 (hB : BytesOK) : okL 231 50 T231_30 = true := (okL_c (o231_29 hB)).2.2
theorem o231_31 (hB : BytesOK) : okL 231 53 T231_31 = true := (okL_c (o231_30 hB)).2.2
theorem o231_32 (hB : BytesOK) : okL 231 54 T231_32 = true := (okL_c (o231_31 hB)).2.2
theorem o231_33 (hB : BytesOK) : okL 231 57 T231_33 = true := (okL_c (o231_32 hB)).2.2
theorem o231_34 (hB : BytesOK) : okL 231 59 T231_34 = true := (okL_c (o231_33 hB)).2.2
theorem o231_35 (hB : BytesOK) : okL 231 60 T231_35 = true := (okL_c (o231_34 hB)).2.2
theorem o231_36 (hB : BytesOK) : okL 231 61 T231_36 = true := (okL_c (o231_35 hB)).2.2
theorem o231_37 (hB : BytesOK) : okL 231 62 T231_37 = true := (okL_c (o231_36 hB)).2.2
theorem o231_38 (hB : BytesOK) : okL 231 63 T231_38 = true := (okL_c (o231_37 hB)).2.2
theorem o231_39 (hB : BytesOK) : okL 231 66 T231_39 = true := (okL_c (o231_38 hB)).2.2
theorem o231_40 (hB : BytesOK) : okL 231 67 T231_40 = true := (okL_c (o231_39 hB)).2.2
theorem o231_41 (hB : BytesOK) : okL 231 70 T231_41 = true := (okL_c (o231_40 hB)).2.2
theorem o231_42 (hB : BytesOK) : okL 231 72 T231_42 = true := (okL_c (o231_41 hB)).2.2
theorem o231_43 (hB : BytesOK) : okL 231 73 T231_43 = true := (okL_c (o231_42 hB)).2.2
theorem o231_44 (hB : BytesOK) : okL 231 74 T231_44 = true := (okL_c (o231_43 hB)).2.2
theorem o231_45 (hB : BytesOK) : okL 231 75 T231_45 = true := (okL_c (o231_44 hB)).2.2
theorem o231_46 (hB : BytesOK) : okL 231 77 T231_46 = true := (okL_c (o231_45 hB)).2.2
theorem o231_47 (hB : BytesOK) : okL 231 80 T231_47 = true := (okL_c (o231_46 hB)).2.2
theorem o231_48 (hB : BytesOK) : okL 231 81 T231_48 = true := (okL_c (o231_47 hB)).2.2
theorem o231_49 (hB : BytesOK) : okL 231 84 T231_49 = true := (okL_c (o231_48 hB)).2.2
theorem o231_50 (hB : BytesOK) : okL 231 86 T231_50 = true := (okL_c (o231_49 hB)).2.2
theorem o231_51 (hB : BytesOK) : okL 231 87 T231_51 = true := (okL_c (o231_50 hB)).2.2
theorem o231_52 (hB : BytesOK) : okL 231 88 T231_52 = true := (okL_c (o231_51 hB)).2.2
theorem o231_53 (hB : BytesOK) : okL 231 89 T231_53 = true := (okL_c (o231_52 hB)).2.2
theorem o231_54 (hB : BytesOK) : okL 231 92 T231_54 = true := (okL_c (o231_53 hB)).2.2
theorem o231_55 (hB : BytesOK) : okL 231 93 T231_55 = true := (okL_c (o231_54 hB)).2.2
theorem o231_56 (hB : BytesOK) : okL 231 94 T231_56 = true := (okL_c (o231_55 hB)).2.2
theorem o231_57 (hB : BytesOK) : okL 231 96 T231_57 = true := (okL_c (o231_56 hB)).2.2
theorem o231_58 (hB : BytesOK) : okL 231 99 T231_58 = true := (okL_c (o231_57 hB)).2.2
theorem o231_59 (hB : BytesOK) : okL 231 102 T231_59 = true := (okL_c (o231_58 hB)).2.2
theorem o231_60 (hB : BytesOK) : okL 231 104 T231_60 = true := (okL_c (o231_59 hB)).2.2
theorem ml231 : mml 231 = 8 := by decide +kernel
theorem mr231 : mret 231 = some .int := by decide +kernel
theorem mg231 : kGood 231 = true := by decide +kernel

def T232_23 : List Tok := []
def T232_22 : List Tok := (.ireturn, 1, 0, 0) :: T232_23
def T232_21 : List Tok := (.invokevirtual 225, 3, 231, 1668) :: T232_22
def T232_20 : List Tok := (.iload_n 2, 1, 0, 0) :: T232_21
def T232_19 : List Tok := (.irem, 1, 0, 0) :: T232_20
def T232_18 : List Tok := (.sipush 1000, 3, 0, 0) :: T232_19
def T232_17 : List Tok := (.iload_n 1, 1, 0, 0) :: T232_18
def T232_16 : List Tok := (.irem, 1, 0, 0) :: T232_17
def T232_15 : List Tok := (.bipush 10, 2, 0, 0) :: T232_16
def T232_14 : List Tok := (.idiv, 1, 0, 0) :: T232_15
def T232_13 : List Tok := (.sipush 1000, 3, 0, 0) :: T232_14
def T232_12 : List Tok := (.iload_n 1, 1, 0, 0) :: T232_13
def T232_11 : List Tok := (.idiv, 1, 0, 0) :: T232_12
def T232_10 : List Tok := (.sipush 10000, 3, 0, 0) :: T232_11
def T232_9 : List Tok := (.iload_n 1, 1, 0, 0) :: T232_10
def T232_8 : List Tok := (.aload_n 0, 1, 0, 0) :: T232_9
def T232_7 : List Tok := (.ireturn, 1, 0, 0) :: T232_8
def T232_6 : List Tok := (.iconst (-1), 1, 0, 0) :: T232_7
def T232_5 : List Tok := (.ifCond .ne 5, 3, 0, 0) :: T232_6
def T232_4 : List Tok := (.invokestatic 72, 3, 185, 1501) :: T232_5
def T232_3 : List Tok := (.iload_n 2, 1, 0, 0) :: T232_4
def T232_2 : List Tok := (.ifCond .eq 10, 3, 0, 0) :: T232_3
def T232_1 : List Tok := (.invokestatic 222, 3, 229, 1660) :: T232_2
def T232_0 : List Tok := (.iload_n 1, 1, 0, 0) :: T232_1
theorem o232_0 (hB : BytesOK) : okL 232 0 T232_0 = true := by
  have h := hB.1 232
  rw [show tk 232 = T232_0 from by decide +kernel] at h
  exact h
theorem o232_1 (hB : BytesOK) : okL 232 1 T232_1 = true := (okL_c (o232_0 hB)).2.2
theorem o232_2 (hB : BytesOK) : okL 232 4 T232_2 = true := (okL_c (o232_1 hB)).2.2
theorem o232_3 (hB : BytesOK) : okL 232 7 T232_3 = true := (okL_c (o232_2 hB)).2.2
theorem o232_4 (hB : BytesOK) : okL 232 8 T232_4 = true := (okL_c (o232_3 hB)).2.2
theorem o232_5 (hB : BytesOK) : okL 232 11 T232_5 = true := (okL_c (o232_4 hB)).2.2
theorem o232_6 (hB : BytesOK) : okL 232 14 T232_6 = true := (okL_c (o232_5 hB)).2.2
theorem o232_7 (hB : BytesOK) : okL 232 15 T232_7 = true := (okL_c (o232_6 hB)).2.2
theorem o232_8 (hB : BytesOK) : okL 232 16 T232_8 = true := (okL_c (o232_7 hB)).2.2
theorem o232_9 (hB : BytesOK) : okL 232 17 T232_9 = true := (okL_c (o232_8 hB)).2.2
theorem o232_10 (hB : BytesOK) : okL 232 18 T232_10 = true := (okL_c (o232_9 hB)).2.2
theorem o232_11 (hB : BytesOK) : okL 232 21 T232_11 = true := (okL_c (o232_10 hB)).2.2
theorem o232_12 (hB : BytesOK) : okL 232 22 T232_12 = true := (okL_c (o232_11 hB)).2.2
theorem o232_13 (hB : BytesOK) : okL 232 23 T232_13 = true := (okL_c (o232_12 hB)).2.2
theorem o232_14 (hB : BytesOK) : okL 232 26 T232_14 = true := (okL_c (o232_13 hB)).2.2
theorem o232_15 (hB : BytesOK) : okL 232 27 T232_15 = true := (okL_c (o232_14 hB)).2.2
theorem o232_16 (hB : BytesOK) : okL 232 29 T232_16 = true := (okL_c (o232_15 hB)).2.2
theorem o232_17 (hB : BytesOK) : okL 232 30 T232_17 = true := (okL_c (o232_16 hB)).2.2
theorem o232_18 (hB : BytesOK) : okL 232 31 T232_18 = true := (okL_c (o232_17 hB)).2.2
theorem o232_19 (hB : BytesOK) : okL 232 34 T232_19 = true := (okL_c (o232_18 hB)).2.2
theorem o232_20 (hB : BytesOK) : okL 232 35 T232_20 = true := (okL_c (o232_19 hB)).2.2
theorem o232_21 (hB : BytesOK) : okL 232 36 T232_21 = true := (okL_c (o232_20 hB)).2.2
theorem o232_22 (hB : BytesOK) : okL 232 39 T232_22 = true := (okL_c (o232_21 hB)).2.2
theorem ml232 : mml 232 = 3 := by decide +kernel
theorem mr232 : mret 232 = some .int := by decide +kernel
theorem mg232 : kGood 232 = true := by decide +kernel
