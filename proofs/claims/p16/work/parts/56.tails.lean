/-! THE METHODS' INSTRUCTIONS -/
def T18_15 : List Tok := []
def T18_14 : List Tok := (.return_, 1, 0, 0) :: T18_15
def T18_13 : List Tok := (.invokestatic 30, 3, 178, 300000) :: T18_14
def T18_12 : List Tok := (.getfield 15, 3, 66, 201) :: T18_13
def T18_11 : List Tok := (.aload_n 0, 1, 0, 0) :: T18_12
def T18_10 : List Tok := (.getfield 15, 3, 66, 201) :: T18_11
def T18_9 : List Tok := (.aload_n 1, 1, 0, 0) :: T18_10
def T18_8 : List Tok := (.invokestatic 30, 3, 178, 300000) :: T18_9
def T18_7 : List Tok := (.getfield 9, 3, 65, 200) :: T18_8
def T18_6 : List Tok := (.aload_n 0, 1, 0, 0) :: T18_7
def T18_5 : List Tok := (.getfield 9, 3, 65, 200) :: T18_6
def T18_4 : List Tok := (.aload_n 1, 1, 0, 0) :: T18_5
def T18_3 : List Tok := (.putfield 22, 3, 64, 198) :: T18_4
def T18_2 : List Tok := (.getfield 22, 3, 64, 198) :: T18_3
def T18_1 : List Tok := (.aload_n 1, 1, 0, 0) :: T18_2
def T18_0 : List Tok := (.aload_n 0, 1, 0, 0) :: T18_1
theorem o18_0 (hB : BytesOK) : okL 18 0 T18_0 = true := by
  have h := hB.1 18
  rw [show tk 18 = T18_0 from by decide +kernel] at h
  exact h
theorem o18_1 (hB : BytesOK) : okL 18 1 T18_1 = true := (okL_c (o18_0 hB)).2.2
theorem o18_2 (hB : BytesOK) : okL 18 2 T18_2 = true := (okL_c (o18_1 hB)).2.2
theorem o18_3 (hB : BytesOK) : okL 18 5 T18_3 = true := (okL_c (o18_2 hB)).2.2
theorem o18_4 (hB : BytesOK) : okL 18 8 T18_4 = true := (okL_c (o18_3 hB)).2.2
theorem o18_5 (hB : BytesOK) : okL 18 9 T18_5 = true := (okL_c (o18_4 hB)).2.2
theorem o18_6 (hB : BytesOK) : okL 18 12 T18_6 = true := (okL_c (o18_5 hB)).2.2
theorem o18_7 (hB : BytesOK) : okL 18 13 T18_7 = true := (okL_c (o18_6 hB)).2.2
theorem o18_8 (hB : BytesOK) : okL 18 16 T18_8 = true := (okL_c (o18_7 hB)).2.2
theorem o18_9 (hB : BytesOK) : okL 18 19 T18_9 = true := (okL_c (o18_8 hB)).2.2
theorem o18_10 (hB : BytesOK) : okL 18 20 T18_10 = true := (okL_c (o18_9 hB)).2.2
theorem o18_11 (hB : BytesOK) : okL 18 23 T18_11 = true := (okL_c (o18_10 hB)).2.2
theorem o18_12 (hB : BytesOK) : okL 18 24 T18_12 = true := (okL_c (o18_11 hB)).2.2
theorem o18_13 (hB : BytesOK) : okL 18 27 T18_13 = true := (okL_c (o18_12 hB)).2.2
theorem o18_14 (hB : BytesOK) : okL 18 30 T18_14 = true := (okL_c (o18_13 hB)).2.2
theorem ml18 : mml 18 = 2 := by decide +kernel
theorem mr18 : mret 18 = none := by decide +kernel
theorem mg18 : kGood 18 = true := by decide +kernel

def T24_32 : List Tok := []
def T24_31 : List Tok := (.ireturn, 1, 0, 0) :: T24_32
def T24_30 : List Tok := (.putfield 81, 3, 132, 373) :: T24_31
def T24_29 : List Tok := (.iadd, 1, 0, 0) :: T24_30
def T24_28 : List Tok := (.iconst 1, 1, 0, 0) :: T24_29
def T24_27 : List Tok := (.dup_x1, 1, 0, 0) :: T24_28
def T24_26 : List Tok := (.getfield 81, 3, 132, 373) :: T24_27
def T24_25 : List Tok := (.dup, 1, 0, 0) :: T24_26
def T24_24 : List Tok := (.aload_n 0, 1, 0, 0) :: T24_25
def T24_23 : List Tok := (.putfield 91, 3, 512, 312) :: T24_24
def T24_22 : List Tok := (.getfield 88, 3, 192, 123) :: T24_23
def T24_21 : List Tok := (.getfield 12, 3, 128, 364) :: T24_22
def T24_20 : List Tok := (.aload_n 0, 1, 0, 0) :: T24_21
def T24_19 : List Tok := (.aload_n 2, 1, 0, 0) :: T24_20
def T24_18 : List Tok := (.invokevirtual 84, 3, 105, 818) :: T24_19
def T24_17 : List Tok := (.aload_n 1, 1, 0, 0) :: T24_18
def T24_16 : List Tok := (.aload_n 2, 1, 0, 0) :: T24_17
def T24_15 : List Tok := (.ireturn, 1, 0, 0) :: T24_16
def T24_14 : List Tok := (.bipush (-2), 2, 0, 0) :: T24_15
def T24_13 : List Tok := (.ifnonnull 6, 3, 0, 0) :: T24_14
def T24_12 : List Tok := (.aload_n 2, 1, 0, 0) :: T24_13
def T24_11 : List Tok := (.astore_n 2, 1, 0, 0) :: T24_12
def T24_10 : List Tok := (.aaload, 1, 0, 0) :: T24_11
def T24_9 : List Tok := (.getfield 81, 3, 132, 373) :: T24_10
def T24_8 : List Tok := (.aload_n 0, 1, 0, 0) :: T24_9
def T24_7 : List Tok := (.getfield 41, 3, 133, 375) :: T24_8
def T24_6 : List Tok := (.aload_n 0, 1, 0, 0) :: T24_7
def T24_5 : List Tok := (.ireturn, 1, 0, 0) :: T24_6
def T24_4 : List Tok := (.bipush (-2), 2, 0, 0) :: T24_5
def T24_3 : List Tok := (.if_icmp .lt 6, 3, 0, 0) :: T24_4
def T24_2 : List Tok := (.bipush 6, 2, 0, 0) :: T24_3
def T24_1 : List Tok := (.getfield 81, 3, 132, 373) :: T24_2
def T24_0 : List Tok := (.aload_n 0, 1, 0, 0) :: T24_1
theorem o24_0 (hB : BytesOK) : okL 24 0 T24_0 = true := by
  have h := hB.1 24
  rw [show tk 24 = T24_0 from by decide +kernel] at h
  exact h
theorem o24_1 (hB : BytesOK) : okL 24 1 T24_1 = true := (okL_c (o24_0 hB)).2.2
theorem o24_2 (hB : BytesOK) : okL 24 4 T24_2 = true := (okL_c (o24_1 hB)).2.2
theorem o24_3 (hB : BytesOK) : okL 24 6 T24_3 = true := (okL_c (o24_2 hB)).2.2
theorem o24_4 (hB : BytesOK) : okL 24 9 T24_4 = true := (okL_c (o24_3 hB)).2.2
theorem o24_5 (hB : BytesOK) : okL 24 11 T24_5 = true := (okL_c (o24_4 hB)).2.2
theorem o24_6 (hB : BytesOK) : okL 24 12 T24_6 = true := (okL_c (o24_5 hB)).2.2
theorem o24_7 (hB : BytesOK) : okL 24 13 T24_7 = true := (okL_c (o24_6 hB)).2.2
theorem o24_8 (hB : BytesOK) : okL 24 16 T24_8 = true := (okL_c (o24_7 hB)).2.2
theorem o24_9 (hB : BytesOK) : okL 24 17 T24_9 = true := (okL_c (o24_8 hB)).2.2
theorem o24_10 (hB : BytesOK) : okL 24 20 T24_10 = true := (okL_c (o24_9 hB)).2.2
theorem o24_11 (hB : BytesOK) : okL 24 21 T24_11 = true := (okL_c (o24_10 hB)).2.2
theorem o24_12 (hB : BytesOK) : okL 24 22 T24_12 = true := (okL_c (o24_11 hB)).2.2
theorem o24_13 (hB : BytesOK) : okL 24 23 T24_13 = true := (okL_c (o24_12 hB)).2.2
theorem o24_14 (hB : BytesOK) : okL 24 26 T24_14 = true := (okL_c (o24_13 hB)).2.2
theorem o24_15 (hB : BytesOK) : okL 24 28 T24_15 = true := (okL_c (o24_14 hB)).2.2
theorem o24_16 (hB : BytesOK) : okL 24 29 T24_16 = true := (okL_c (o24_15 hB)).2.2
theorem o24_17 (hB : BytesOK) : okL 24 30 T24_17 = true := (okL_c (o24_16 hB)).2.2
theorem o24_18 (hB : BytesOK) : okL 24 31 T24_18 = true := (okL_c (o24_17 hB)).2.2
theorem o24_19 (hB : BytesOK) : okL 24 34 T24_19 = true := (okL_c (o24_18 hB)).2.2
theorem o24_20 (hB : BytesOK) : okL 24 35 T24_20 = true := (okL_c (o24_19 hB)).2.2
theorem o24_21 (hB : BytesOK) : okL 24 36 T24_21 = true := (okL_c (o24_20 hB)).2.2
theorem o24_22 (hB : BytesOK) : okL 24 39 T24_22 = true := (okL_c (o24_21 hB)).2.2
theorem o24_23 (hB : BytesOK) : okL 24 42 T24_23 = true := (okL_c (o24_22 hB)).2.2
theorem o24_24 (hB : BytesOK) : okL 24 45 T24_24 = true := (okL_c (o24_23 hB)).2.2
theorem o24_25 (hB : BytesOK) : okL 24 46 T24_25 = true := (okL_c (o24_24 hB)).2.2
theorem o24_26 (hB : BytesOK) : okL 24 47 T24_26 = true := (okL_c (o24_25 hB)).2.2
theorem o24_27 (hB : BytesOK) : okL 24 50 T24_27 = true := (okL_c (o24_26 hB)).2.2
theorem o24_28 (hB : BytesOK) : okL 24 51 T24_28 = true := (okL_c (o24_27 hB)).2.2
theorem o24_29 (hB : BytesOK) : okL 24 52 T24_29 = true := (okL_c (o24_28 hB)).2.2
theorem o24_30 (hB : BytesOK) : okL 24 53 T24_30 = true := (okL_c (o24_29 hB)).2.2
theorem o24_31 (hB : BytesOK) : okL 24 56 T24_31 = true := (okL_c (o24_30 hB)).2.2
theorem ml24 : mml 24 = 3 := by decide +kernel
theorem mr24 : mret 24 = some .int := by decide +kernel
theorem mg24 : kGood 24 = true := by decide +kernel

def T25_13 : List Tok := []
def T25_12 : List Tok := (.areturn, 1, 0, 0) :: T25_13
def T25_11 : List Tok := (.aconst_null, 1, 0, 0) :: T25_12
def T25_10 : List Tok := (.goto 4, 3, 0, 0) :: T25_11
def T25_9 : List Tok := (.aaload, 1, 0, 0) :: T25_10
def T25_8 : List Tok := (.iload_n 1, 1, 0, 0) :: T25_9
def T25_7 : List Tok := (.getfield 41, 3, 133, 375) :: T25_8
def T25_6 : List Tok := (.aload_n 0, 1, 0, 0) :: T25_7
def T25_5 : List Tok := (.if_icmp .ge 12, 3, 0, 0) :: T25_6
def T25_4 : List Tok := (.getfield 81, 3, 132, 373) :: T25_5
def T25_3 : List Tok := (.aload_n 0, 1, 0, 0) :: T25_4
def T25_2 : List Tok := (.iload_n 1, 1, 0, 0) :: T25_3
def T25_1 : List Tok := (.ifCond .lt 20, 3, 0, 0) :: T25_2
def T25_0 : List Tok := (.iload_n 1, 1, 0, 0) :: T25_1
theorem o25_0 (hB : BytesOK) : okL 25 0 T25_0 = true := by
  have h := hB.1 25
  rw [show tk 25 = T25_0 from by decide +kernel] at h
  exact h
theorem o25_1 (hB : BytesOK) : okL 25 1 T25_1 = true := (okL_c (o25_0 hB)).2.2
theorem o25_2 (hB : BytesOK) : okL 25 4 T25_2 = true := (okL_c (o25_1 hB)).2.2
theorem o25_3 (hB : BytesOK) : okL 25 5 T25_3 = true := (okL_c (o25_2 hB)).2.2
theorem o25_4 (hB : BytesOK) : okL 25 6 T25_4 = true := (okL_c (o25_3 hB)).2.2
theorem o25_5 (hB : BytesOK) : okL 25 9 T25_5 = true := (okL_c (o25_4 hB)).2.2
theorem o25_6 (hB : BytesOK) : okL 25 12 T25_6 = true := (okL_c (o25_5 hB)).2.2
theorem o25_7 (hB : BytesOK) : okL 25 13 T25_7 = true := (okL_c (o25_6 hB)).2.2
theorem o25_8 (hB : BytesOK) : okL 25 16 T25_8 = true := (okL_c (o25_7 hB)).2.2
theorem o25_9 (hB : BytesOK) : okL 25 17 T25_9 = true := (okL_c (o25_8 hB)).2.2
theorem o25_10 (hB : BytesOK) : okL 25 18 T25_10 = true := (okL_c (o25_9 hB)).2.2
theorem o25_11 (hB : BytesOK) : okL 25 21 T25_11 = true := (okL_c (o25_10 hB)).2.2
theorem o25_12 (hB : BytesOK) : okL 25 22 T25_12 = true := (okL_c (o25_11 hB)).2.2
theorem ml25 : mml 25 = 2 := by decide +kernel
theorem mg25 : kGood 25 = true := by decide +kernel

def T43_49 : List Tok := []
def T43_48 : List Tok := (.return_, 1, 0, 0) :: T43_49
def T43_47 : List Tok := (.goto (-39), 3, 0, 0) :: T43_48
def T43_46 : List Tok := (.iinc 2 1, 3, 0, 0) :: T43_47
def T43_45 : List Tok := (.invokevirtual 84, 3, 105, 818) :: T43_46
def T43_44 : List Tok := (.aload 4, 2, 0, 0) :: T43_45
def T43_43 : List Tok := (.aload_n 3, 1, 0, 0) :: T43_44
def T43_42 : List Tok := (.ifnull 9, 3, 0, 0) :: T43_43
def T43_41 : List Tok := (.aload 4, 2, 0, 0) :: T43_42
def T43_40 : List Tok := (.ifnull 14, 3, 0, 0) :: T43_41
def T43_39 : List Tok := (.aload_n 3, 1, 0, 0) :: T43_40
def T43_38 : List Tok := (.astore 4, 2, 0, 0) :: T43_39
def T43_37 : List Tok := (.aaload, 1, 0, 0) :: T43_38
def T43_36 : List Tok := (.iload_n 2, 1, 0, 0) :: T43_37
def T43_35 : List Tok := (.getfield 41, 3, 133, 375) :: T43_36
def T43_34 : List Tok := (.aload_n 1, 1, 0, 0) :: T43_35
def T43_33 : List Tok := (.astore_n 3, 1, 0, 0) :: T43_34
def T43_32 : List Tok := (.aaload, 1, 0, 0) :: T43_33
def T43_31 : List Tok := (.iload_n 2, 1, 0, 0) :: T43_32
def T43_30 : List Tok := (.getfield 41, 3, 133, 375) :: T43_31
def T43_29 : List Tok := (.aload_n 0, 1, 0, 0) :: T43_30
def T43_28 : List Tok := (.if_icmp .ge 39, 3, 0, 0) :: T43_29
def T43_27 : List Tok := (.bipush 6, 2, 0, 0) :: T43_28
def T43_26 : List Tok := (.iload_n 2, 1, 0, 0) :: T43_27
def T43_25 : List Tok := (.istore_n 2, 1, 0, 0) :: T43_26
def T43_24 : List Tok := (.iconst 0, 1, 0, 0) :: T43_25
def T43_23 : List Tok := (.putfield 81, 3, 132, 373) :: T43_24
def T43_22 : List Tok := (.getfield 81, 3, 132, 373) :: T43_23
def T43_21 : List Tok := (.aload_n 1, 1, 0, 0) :: T43_22
def T43_20 : List Tok := (.aload_n 0, 1, 0, 0) :: T43_21
def T43_19 : List Tok := (.invokevirtual 237, 3, 79, 1330) :: T43_20
def T43_18 : List Tok := (.getfield 35, 3, 131, 371) :: T43_19
def T43_17 : List Tok := (.aload_n 1, 1, 0, 0) :: T43_18
def T43_16 : List Tok := (.getfield 35, 3, 131, 371) :: T43_17
def T43_15 : List Tok := (.aload_n 0, 1, 0, 0) :: T43_16
def T43_14 : List Tok := (.invokevirtual 234, 3, 121, 1325) :: T43_15
def T43_13 : List Tok := (.getfield 28, 3, 130, 369) :: T43_14
def T43_12 : List Tok := (.aload_n 1, 1, 0, 0) :: T43_13
def T43_11 : List Tok := (.getfield 28, 3, 130, 369) :: T43_12
def T43_10 : List Tok := (.aload_n 0, 1, 0, 0) :: T43_11
def T43_9 : List Tok := (.invokevirtual 231, 3, 18, 1320) :: T43_10
def T43_8 : List Tok := (.getfield 21, 3, 129, 367) :: T43_9
def T43_7 : List Tok := (.aload_n 1, 1, 0, 0) :: T43_8
def T43_6 : List Tok := (.getfield 21, 3, 129, 367) :: T43_7
def T43_5 : List Tok := (.aload_n 0, 1, 0, 0) :: T43_6
def T43_4 : List Tok := (.invokevirtual 228, 3, 57, 1315) :: T43_5
def T43_3 : List Tok := (.getfield 12, 3, 128, 364) :: T43_4
def T43_2 : List Tok := (.aload_n 1, 1, 0, 0) :: T43_3
def T43_1 : List Tok := (.getfield 12, 3, 128, 364) :: T43_2
def T43_0 : List Tok := (.aload_n 0, 1, 0, 0) :: T43_1
theorem o43_0 (hB : BytesOK) : okL 43 0 T43_0 = true := by
  have h := hB.1 43
  rw [show tk 43 = T43_0 from by decide +kernel] at h
  exact h
theorem o43_1 (hB : BytesOK) : okL 43 1 T43_1 = true := (okL_c (o43_0 hB)).2.2
theorem o43_2 (hB : BytesOK) : okL 43 4 T43_2 = true := (okL_c (o43_1 hB)).2.2
theorem o43_3 (hB : BytesOK) : okL 43 5 T43_3 = true := (okL_c (o43_2 hB)).2.2
theorem o43_4 (hB : BytesOK) : okL 43 8 T43_4 = true := (okL_c (o43_3 hB)).2.2
theorem o43_5 (hB : BytesOK) : okL 43 11 T43_5 = true := (okL_c (o43_4 hB)).2.2
theorem o43_6 (hB : BytesOK) : okL 43 12 T43_6 = true := (okL_c (o43_5 hB)).2.2
theorem o43_7 (hB : BytesOK) : okL 43 15 T43_7 = true := (okL_c (o43_6 hB)).2.2
theorem o43_8 (hB : BytesOK) : okL 43 16 T43_8 = true := (okL_c (o43_7 hB)).2.2
theorem o43_9 (hB : BytesOK) : okL 43 19 T43_9 = true := (okL_c (o43_8 hB)).2.2
theorem o43_10 (hB : BytesOK) : okL 43 22 T43_10 = true := (okL_c (o43_9 hB)).2.2
theorem o43_11 (hB : BytesOK) : okL 43 23 T43_11 = true := (okL_c (o43_10 hB)).2.2
theorem o43_12 (hB : BytesOK) : okL 43 26 T43_12 = true := (okL_c (o43_11 hB)).2.2
theorem o43_13 (hB : BytesOK) : okL 43 27 T43_13 = true := (okL_c (o43_12 hB)).2.2
theorem o43_14 (hB : BytesOK) : okL 43 30 T43_14 = true := (okL_c (o43_13 hB)).2.2
theorem o43_15 (hB : BytesOK) : okL 43 33 T43_15 = true := (okL_c (o43_14 hB)).2.2
theorem o43_16 (hB : BytesOK) : okL 43 34 T43_16 = true := (okL_c (o43_15 hB)).2.2
theorem o43_17 (hB : BytesOK) : okL 43 37 T43_17 = true := (okL_c (o43_16 hB)).2.2
theorem o43_18 (hB : BytesOK) : okL 43 38 T43_18 = true := (okL_c (o43_17 hB)).2.2
theorem o43_19 (hB : BytesOK) : okL 43 41 T43_19 = true := (okL_c (o43_18 hB)).2.2
theorem o43_20 (hB : BytesOK) : okL 43 44 T43_20 = true := (okL_c (o43_19 hB)).2.2
theorem o43_21 (hB : BytesOK) : okL 43 45 T43_21 = true := (okL_c (o43_20 hB)).2.2
theorem o43_22 (hB : BytesOK) : okL 43 46 T43_22 = true := (okL_c (o43_21 hB)).2.2
theorem o43_23 (hB : BytesOK) : okL 43 49 T43_23 = true := (okL_c (o43_22 hB)).2.2
theorem o43_24 (hB : BytesOK) : okL 43 52 T43_24 = true := (okL_c (o43_23 hB)).2.2
theorem o43_25 (hB : BytesOK) : okL 43 53 T43_25 = true := (okL_c (o43_24 hB)).2.2
theorem o43_26 (hB : BytesOK) : okL 43 54 T43_26 = true := (okL_c (o43_25 hB)).2.2
theorem o43_27 (hB : BytesOK) : okL 43 55 T43_27 = true := (okL_c (o43_26 hB)).2.2
theorem o43_28 (hB : BytesOK) : okL 43 57 T43_28 = true := (okL_c (o43_27 hB)).2.2
theorem o43_29 (hB : BytesOK) : okL 43 60 T43_29 = true := (okL_c (o43_28 hB)).2.2
theorem o43_30 (hB : BytesOK) : okL 43 61 T43_30 = true := (okL_c (o43_29 hB)).2.2
theorem o43_31 (hB : BytesOK) : okL 43 64 T43_31 = true := (okL_c (o43_30 hB)).2.2
theorem o43_32 (hB : BytesOK) : okL 43 65 T43_32 = true := (okL_c (o43_31 hB)).2.2
theorem o43_33 (hB : BytesOK) : okL 43 66 T43_33 = true := (okL_c (o43_32 hB)).2.2
theorem o43_34 (hB : BytesOK) : okL 43 67 T43_34 = true := (okL_c (o43_33 hB)).2.2
theorem o43_35 (hB : BytesOK) : okL 43 68 T43_35 = true := (okL_c (o43_34 hB)).2.2
theorem o43_36 (hB : BytesOK) : okL 43 71 T43_36 = true := (okL_c (o43_35 hB)).2.2
theorem o43_37 (hB : BytesOK) : okL 43 72 T43_37 = true := (okL_c (o43_36 hB)).2.2
theorem o43_38 (hB : BytesOK) : okL 43 73 T43_38 = true := (okL_c (o43_37 hB)).2.2
theorem o43_39 (hB : BytesOK) : okL 43 75 T43_39 = true := (okL_c (o43_38 hB)).2.2
theorem o43_40 (hB : BytesOK) : okL 43 76 T43_40 = true := (okL_c (o43_39 hB)).2.2
theorem o43_41 (hB : BytesOK) : okL 43 79 T43_41 = true := (okL_c (o43_40 hB)).2.2
theorem o43_42 (hB : BytesOK) : okL 43 81 T43_42 = true := (okL_c (o43_41 hB)).2.2
theorem o43_43 (hB : BytesOK) : okL 43 84 T43_43 = true := (okL_c (o43_42 hB)).2.2
theorem o43_44 (hB : BytesOK) : okL 43 85 T43_44 = true := (okL_c (o43_43 hB)).2.2
theorem o43_45 (hB : BytesOK) : okL 43 87 T43_45 = true := (okL_c (o43_44 hB)).2.2
theorem o43_46 (hB : BytesOK) : okL 43 90 T43_46 = true := (okL_c (o43_45 hB)).2.2
theorem o43_47 (hB : BytesOK) : okL 43 93 T43_47 = true := (okL_c (o43_46 hB)).2.2
theorem o43_48 (hB : BytesOK) : okL 43 96 T43_48 = true := (okL_c (o43_47 hB)).2.2
theorem ml43 : mml 43 = 5 := by decide +kernel
theorem mr43 : mret 43 = none := by decide +kernel
theorem mg43 : kGood 43 = true := by decide +kernel

def T57_88 : List Tok := []
def T57_87 : List Tok := (.return_, 1, 0, 0) :: T57_88
def T57_86 : List Tok := (.invokestatic 97, 3, 178, 300000) :: T57_87
def T57_85 : List Tok := (.getfield 42, 3, 210, 151) :: T57_86
def T57_84 : List Tok := (.aload_n 0, 1, 0, 0) :: T57_85
def T57_83 : List Tok := (.getfield 42, 3, 210, 151) :: T57_84
def T57_82 : List Tok := (.aload_n 1, 1, 0, 0) :: T57_83
def T57_81 : List Tok := (.invokestatic 97, 3, 178, 300000) :: T57_82
def T57_80 : List Tok := (.getfield 39, 3, 209, 150) :: T57_81
def T57_79 : List Tok := (.aload_n 0, 1, 0, 0) :: T57_80
def T57_78 : List Tok := (.getfield 39, 3, 209, 150) :: T57_79
def T57_77 : List Tok := (.aload_n 1, 1, 0, 0) :: T57_78
def T57_76 : List Tok := (.putfield 82, 3, 208, 149) :: T57_77
def T57_75 : List Tok := (.getfield 82, 3, 208, 149) :: T57_76
def T57_74 : List Tok := (.aload_n 1, 1, 0, 0) :: T57_75
def T57_73 : List Tok := (.aload_n 0, 1, 0, 0) :: T57_74
def T57_72 : List Tok := (.putfield 75, 3, 207, 148) :: T57_73
def T57_71 : List Tok := (.getfield 75, 3, 207, 148) :: T57_72
def T57_70 : List Tok := (.aload_n 1, 1, 0, 0) :: T57_71
def T57_69 : List Tok := (.aload_n 0, 1, 0, 0) :: T57_70
def T57_68 : List Tok := (.invokestatic 97, 3, 178, 300000) :: T57_69
def T57_67 : List Tok := (.getfield 36, 3, 206, 147) :: T57_68
def T57_66 : List Tok := (.aload_n 0, 1, 0, 0) :: T57_67
def T57_65 : List Tok := (.getfield 36, 3, 206, 147) :: T57_66
def T57_64 : List Tok := (.aload_n 1, 1, 0, 0) :: T57_65
def T57_63 : List Tok := (.invokestatic 97, 3, 178, 300000) :: T57_64
def T57_62 : List Tok := (.getfield 33, 3, 205, 146) :: T57_63
def T57_61 : List Tok := (.aload_n 0, 1, 0, 0) :: T57_62
def T57_60 : List Tok := (.getfield 33, 3, 205, 146) :: T57_61
def T57_59 : List Tok := (.aload_n 1, 1, 0, 0) :: T57_60
def T57_58 : List Tok := (.putfield 65, 3, 204, 145) :: T57_59
def T57_57 : List Tok := (.getfield 65, 3, 204, 145) :: T57_58
def T57_56 : List Tok := (.aload_n 1, 1, 0, 0) :: T57_57
def T57_55 : List Tok := (.aload_n 0, 1, 0, 0) :: T57_56
def T57_54 : List Tok := (.putfield 59, 3, 203, 143) :: T57_55
def T57_53 : List Tok := (.getfield 59, 3, 203, 143) :: T57_54
def T57_52 : List Tok := (.aload_n 1, 1, 0, 0) :: T57_53
def T57_51 : List Tok := (.aload_n 0, 1, 0, 0) :: T57_52
def T57_50 : List Tok := (.putfield 88, 3, 202, 142) :: T57_51
def T57_49 : List Tok := (.getfield 88, 3, 202, 142) :: T57_50
def T57_48 : List Tok := (.aload_n 1, 1, 0, 0) :: T57_49
def T57_47 : List Tok := (.aload_n 0, 1, 0, 0) :: T57_48
def T57_46 : List Tok := (.putfield 85, 3, 201, 141) :: T57_47
def T57_45 : List Tok := (.getfield 85, 3, 201, 141) :: T57_46
def T57_44 : List Tok := (.aload_n 1, 1, 0, 0) :: T57_45
def T57_43 : List Tok := (.aload_n 0, 1, 0, 0) :: T57_44
def T57_42 : List Tok := (.invokestatic 97, 3, 178, 300000) :: T57_43
def T57_41 : List Tok := (.getfield 30, 3, 200, 139) :: T57_42
def T57_40 : List Tok := (.aload_n 0, 1, 0, 0) :: T57_41
def T57_39 : List Tok := (.getfield 30, 3, 200, 139) :: T57_40
def T57_38 : List Tok := (.aload_n 1, 1, 0, 0) :: T57_39
def T57_37 : List Tok := (.invokestatic 97, 3, 178, 300000) :: T57_38
def T57_36 : List Tok := (.getfield 27, 3, 199, 136) :: T57_37
def T57_35 : List Tok := (.aload_n 0, 1, 0, 0) :: T57_36
def T57_34 : List Tok := (.getfield 27, 3, 199, 136) :: T57_35
def T57_33 : List Tok := (.aload_n 1, 1, 0, 0) :: T57_34
def T57_32 : List Tok := (.invokestatic 97, 3, 178, 300000) :: T57_33
def T57_31 : List Tok := (.getfield 24, 3, 198, 135) :: T57_32
def T57_30 : List Tok := (.aload_n 0, 1, 0, 0) :: T57_31
def T57_29 : List Tok := (.getfield 24, 3, 198, 135) :: T57_30
def T57_28 : List Tok := (.aload_n 1, 1, 0, 0) :: T57_29
def T57_27 : List Tok := (.invokestatic 97, 3, 178, 300000) :: T57_28
def T57_26 : List Tok := (.getfield 21, 3, 197, 134) :: T57_27
def T57_25 : List Tok := (.aload_n 0, 1, 0, 0) :: T57_26
def T57_24 : List Tok := (.getfield 21, 3, 197, 134) :: T57_25
def T57_23 : List Tok := (.aload_n 1, 1, 0, 0) :: T57_24
def T57_22 : List Tok := (.invokestatic 97, 3, 178, 300000) :: T57_23
def T57_21 : List Tok := (.getfield 18, 3, 196, 132) :: T57_22
def T57_20 : List Tok := (.aload_n 0, 1, 0, 0) :: T57_21
def T57_19 : List Tok := (.getfield 18, 3, 196, 132) :: T57_20
def T57_18 : List Tok := (.aload_n 1, 1, 0, 0) :: T57_19
def T57_17 : List Tok := (.invokestatic 97, 3, 178, 300000) :: T57_18
def T57_16 : List Tok := (.getfield 15, 3, 195, 129) :: T57_17
def T57_15 : List Tok := (.aload_n 0, 1, 0, 0) :: T57_16
def T57_14 : List Tok := (.getfield 15, 3, 195, 129) :: T57_15
def T57_13 : List Tok := (.aload_n 1, 1, 0, 0) :: T57_14
def T57_12 : List Tok := (.invokestatic 97, 3, 178, 300000) :: T57_13
def T57_11 : List Tok := (.getfield 9, 3, 194, 127) :: T57_12
def T57_10 : List Tok := (.aload_n 0, 1, 0, 0) :: T57_11
def T57_9 : List Tok := (.getfield 9, 3, 194, 127) :: T57_10
def T57_8 : List Tok := (.aload_n 1, 1, 0, 0) :: T57_9
def T57_7 : List Tok := (.putfield 45, 3, 193, 124) :: T57_8
def T57_6 : List Tok := (.getfield 45, 3, 193, 124) :: T57_7
def T57_5 : List Tok := (.aload_n 1, 1, 0, 0) :: T57_6
def T57_4 : List Tok := (.aload_n 0, 1, 0, 0) :: T57_5
def T57_3 : List Tok := (.putfield 62, 3, 192, 122) :: T57_4
def T57_2 : List Tok := (.getfield 62, 3, 192, 122) :: T57_3
def T57_1 : List Tok := (.aload_n 1, 1, 0, 0) :: T57_2
def T57_0 : List Tok := (.aload_n 0, 1, 0, 0) :: T57_1
theorem o57_0 (hB : BytesOK) : okL 57 0 T57_0 = true := by
  have h := hB.1 57
  rw [show tk 57 = T57_0 from by decide +kernel] at h
  exact h
theorem o57_1 (hB : BytesOK) : okL 57 1 T57_1 = true := (okL_c (o57_0 hB)).2.2
theorem o57_2 (hB : BytesOK) : okL 57 2 T57_2 = true := (okL_c (o57_1 hB)).2.2
theorem o57_3 (hB : BytesOK) : okL 57 5 T57_3 = true := (okL_c (o57_2 hB)).2.2
theorem o57_4 (hB : BytesOK) : okL 57 8 T57_4 = true := (okL_c (o57_3 hB)).2.2
theorem o57_5 (hB : BytesOK) : okL 57 9 T57_5 = true := (okL_c (o57_4 hB)).2.2
theorem o57_6 (hB : BytesOK) : okL 57 10 T57_6 = true := (okL_c (o57_5 hB)).2.2
theorem o57_7 (hB : BytesOK) : okL 57 13 T57_7 = true := (okL_c (o57_6 hB)).2.2
theorem o57_8 (hB : BytesOK) : okL 57 16 T57_8 = true := (okL_c (o57_7 hB)).2.2
theorem o57_9 (hB : BytesOK) : okL 57 17 T57_9 = true := (okL_c (o57_8 hB)).2.2
theorem o57_10 (hB : BytesOK) : okL 57 20 T57_10 = true := (okL_c (o57_9 hB)).2.2
theorem o57_11 (hB : BytesOK) : okL 57 21 T57_11 = true := (okL_c (o57_10 hB)).2.2
theorem o57_12 (hB : BytesOK) : okL 57 24 T57_12 = true := (okL_c (o57_11 hB)).2.2
theorem o57_13 (hB : BytesOK) : okL 57 27 T57_13 = true := (okL_c (o57_12 hB)).2.2
theorem o57_14 (hB : BytesOK) : okL 57 28 T57_14 = true := (okL_c (o57_13 hB)).2.2
theorem o57_15 (hB : BytesOK) : okL 57 31 T57_15 = true := (okL_c (o57_14 hB)).2.2
theorem o57_16 (hB : BytesOK) : okL 57 32 T57_16 = true := (okL_c (o57_15 hB)).2.2
theorem o57_17 (hB : BytesOK) : okL 57 35 T57_17 = true := (okL_c (o57_16 hB)).2.2
theorem o57_18 (hB : BytesOK) : okL 57 38 T57_18 = true := (okL_c (o57_17 hB)).2.2
theorem o57_19 (hB : BytesOK) : okL 57 39 T57_19 = true := (okL_c (o57_18 hB)).2.2
theorem o57_20 (hB : BytesOK) : okL 57 42 T57_20 = true := (okL_c (o57_19 hB)).2.2
theorem o57_21 (hB : BytesOK) : okL 57 43 T57_21 = true := (okL_c (o57_20 hB)).2.2
theorem o57_22 (hB : BytesOK) : okL 57 46 T57_22 = true := (okL_c (o57_21 hB)).2.2
theorem o57_23 (hB : BytesOK) : okL 57 49 T57_23 = true := (okL_c (o57_22 hB)).2.2
theorem o57_24 (hB : BytesOK) : okL 57 50 T57_24 = true := (okL_c (o57_23 hB)).2.2
theorem o57_25 (hB : BytesOK) : okL 57 53 T57_25 = true := (okL_c (o57_24 hB)).2.2
theorem o57_26 (hB : BytesOK) : okL 57 54 T57_26 = true := (okL_c (o57_25 hB)).2.2
theorem o57_27 (hB : BytesOK) : okL 57 57 T57_27 = true := (okL_c (o57_26 hB)).2.2
theorem o57_28 (hB : BytesOK) : okL 57 60 T57_28 = true := (okL_c (o57_27 hB)).2.2
theorem o57_29 (hB : BytesOK) : okL 57 61 T57_29 = true := (okL_c (o57_28 hB)).2.2
theorem o57_30 (hB : BytesOK) : okL 57 64 T57_30 = true := (okL_c (o57_29 hB)).2.2
theorem o57_31 (hB : BytesOK) : okL 57 65 T57_31 = true := (okL_c (o57_30 hB)).2.2
theorem o57_32 (hB : BytesOK) : okL 57 68 T57_32 = true := (okL_c (o57_31 hB)).2.2
theorem o57_33 (hB : BytesOK) : okL 57 71 T57_33 = true := (okL_c (o57_32 hB)).2.2
theorem o57_34 (hB : BytesOK) : okL 57 72 T57_34 = true := (okL_c (o57_33 hB)).2.2
theorem o57_35 (hB : BytesOK) : okL 57 75 T57_35 = true := (okL_c (o57_34 hB)).2.2
theorem o57_36 (hB : BytesOK) : okL 57 76 T57_36 = true := (okL_c (o57_35 hB)).2.2
theorem o57_37 (hB : BytesOK) : okL 57 79 T57_37 = true := (okL_c (o57_36 hB)).2.2
theorem o57_38 (hB : BytesOK) : okL 57 82 T57_38 = true := (okL_c (o57_37 hB)).2.2
theorem o57_39 (hB : BytesOK) : okL 57 83 T57_39 = true := (okL_c (o57_38 hB)).2.2
theorem o57_40 (hB : BytesOK) : okL 57 86 T57_40 = true := (okL_c (o57_39 hB)).2.2
theorem o57_41 (hB : BytesOK) : okL 57 87 T57_41 = true := (okL_c (o57_40 hB)).2.2
theorem o57_42 (hB : BytesOK) : okL 57 90 T57_42 = true := (okL_c (o57_41 hB)).2.2
theorem o57_43 (hB : BytesOK) : okL 57 93 T57_43 = true := (okL_c (o57_42 hB)).2.2
theorem o57_44 (hB : BytesOK) : okL 57 94 T57_44 = true := (okL_c (o57_43 hB)).2.2
theorem o57_45 (hB : BytesOK) : okL 57 95 T57_45 = true := (okL_c (o57_44 hB)).2.2
theorem o57_46 (hB : BytesOK) : okL 57 98 T57_46 = true := (okL_c (o57_45 hB)).2.2
theorem o57_47 (hB : BytesOK) : okL 57 101 T57_47 = true := (okL_c (o57_46 hB)).2.2
theorem o57_48 (hB : BytesOK) : okL 57 102 T57_48 = true := (okL_c (o57_47 hB)).2.2
theorem o57_49 (hB : BytesOK) : okL 57 103 T57_49 = true := (okL_c (o57_48 hB)).2.2
theorem o57_50 (hB : BytesOK) : okL 57 106 T57_50 = true := (okL_c (o57_49 hB)).2.2
theorem o57_51 (hB : BytesOK) : okL 57 109 T57_51 = true := (okL_c (o57_50 hB)).2.2
theorem o57_52 (hB : BytesOK) : okL 57 110 T57_52 = true := (okL_c (o57_51 hB)).2.2
theorem o57_53 (hB : BytesOK) : okL 57 111 T57_53 = true := (okL_c (o57_52 hB)).2.2
theorem o57_54 (hB : BytesOK) : okL 57 114 T57_54 = true := (okL_c (o57_53 hB)).2.2
theorem o57_55 (hB : BytesOK) : okL 57 117 T57_55 = true := (okL_c (o57_54 hB)).2.2
theorem o57_56 (hB : BytesOK) : okL 57 118 T57_56 = true := (okL_c (o57_55 hB)).2.2
theorem o57_57 (hB : BytesOK) : okL 57 119 T57_57 = true := (okL_c (o57_56 hB)).2.2
theorem o57_58 (hB : BytesOK) : okL 57 122 T57_58 = true := (okL_c (o57_57 hB)).2.2
theorem o57_59 (hB : BytesOK) : okL 57 125 T57_59 = true := (okL_c (o57_58 hB)).2.2
theorem o57_60 (hB : BytesOK) : okL 57 126 T57_60 = true := (okL_c (o57_59 hB)).2.2
theorem o57_61 (hB : BytesOK) : okL 57 129 T57_61 = true := (okL_c (o57_60 hB)).2.2
theorem o57_62 (hB : BytesOK) : okL 57 130 T57_62 = true := (okL_c (o57_61 hB)).2.2
theorem o57_63 (hB : BytesOK) : okL 57 133 T57_63 = true := (okL_c (o57_62 hB)).2.2
theorem o57_64 (hB : BytesOK) : okL 57 136 T57_64 = true := (okL_c (o57_63 hB)).2.2
theorem o57_65 (hB : BytesOK) : okL 57 137 T57_65 = true := (okL_c (o57_64 hB)).2.2
theorem o57_66 (hB : BytesOK) : okL 57 140 T57_66 = true := (okL_c (o57_65 hB)).2.2
theorem o57_67 (hB : BytesOK) : okL 57 141 T57_67 = true := (okL_c (o57_66 hB)).2.2
theorem o57_68 (hB : BytesOK) : okL 57 144 T57_68 = true := (okL_c (o57_67 hB)).2.2
theorem o57_69 (hB : BytesOK) : okL 57 147 T57_69 = true := (okL_c (o57_68 hB)).2.2
theorem o57_70 (hB : BytesOK) : okL 57 148 T57_70 = true := (okL_c (o57_69 hB)).2.2
theorem o57_71 (hB : BytesOK) : okL 57 149 T57_71 = true := (okL_c (o57_70 hB)).2.2
theorem o57_72 (hB : BytesOK) : okL 57 152 T57_72 = true := (okL_c (o57_71 hB)).2.2
theorem o57_73 (hB : BytesOK) : okL 57 155 T57_73 = true := (okL_c (o57_72 hB)).2.2
theorem o57_74 (hB : BytesOK) : okL 57 156 T57_74 = true := (okL_c (o57_73 hB)).2.2
theorem o57_75 (hB : BytesOK) : okL 57 157 T57_75 = true := (okL_c (o57_74 hB)).2.2
theorem o57_76 (hB : BytesOK) : okL 57 160 T57_76 = true := (okL_c (o57_75 hB)).2.2
theorem o57_77 (hB : BytesOK) : okL 57 163 T57_77 = true := (okL_c (o57_76 hB)).2.2
theorem o57_78 (hB : BytesOK) : okL 57 164 T57_78 = true := (okL_c (o57_77 hB)).2.2
theorem o57_79 (hB : BytesOK) : okL 57 167 T57_79 = true := (okL_c (o57_78 hB)).2.2
theorem o57_80 (hB : BytesOK) : okL 57 168 T57_80 = true := (okL_c (o57_79 hB)).2.2
theorem o57_81 (hB : BytesOK) : okL 57 171 T57_81 = true := (okL_c (o57_80 hB)).2.2
theorem o57_82 (hB : BytesOK) : okL 57 174 T57_82 = true := (okL_c (o57_81 hB)).2.2
theorem o57_83 (hB : BytesOK) : okL 57 175 T57_83 = true := (okL_c (o57_82 hB)).2.2
theorem o57_84 (hB : BytesOK) : okL 57 178 T57_84 = true := (okL_c (o57_83 hB)).2.2
theorem o57_85 (hB : BytesOK) : okL 57 179 T57_85 = true := (okL_c (o57_84 hB)).2.2
theorem o57_86 (hB : BytesOK) : okL 57 182 T57_86 = true := (okL_c (o57_85 hB)).2.2
theorem o57_87 (hB : BytesOK) : okL 57 185 T57_87 = true := (okL_c (o57_86 hB)).2.2
theorem ml57 : mml 57 = 2 := by decide +kernel
theorem mr57 : mret 57 = none := by decide +kernel
theorem mg57 : kGood 57 = true := by decide +kernel

def T79_28 : List Tok := []
def T79_27 : List Tok := (.return_, 1, 0, 0) :: T79_28
def T79_26 : List Tok := (.putfield 46, 3, 389, 289) :: T79_27
def T79_25 : List Tok := (.getfield 46, 3, 389, 289) :: T79_26
def T79_24 : List Tok := (.aload_n 1, 1, 0, 0) :: T79_25
def T79_23 : List Tok := (.aload_n 0, 1, 0, 0) :: T79_24
def T79_22 : List Tok := (.putfield 43, 3, 388, 287) :: T79_23
def T79_21 : List Tok := (.getfield 43, 3, 388, 287) :: T79_22
def T79_20 : List Tok := (.aload_n 1, 1, 0, 0) :: T79_21
def T79_19 : List Tok := (.aload_n 0, 1, 0, 0) :: T79_20
def T79_18 : List Tok := (.putfield 39, 3, 387, 285) :: T79_19
def T79_17 : List Tok := (.getfield 39, 3, 387, 285) :: T79_18
def T79_16 : List Tok := (.aload_n 1, 1, 0, 0) :: T79_17
def T79_15 : List Tok := (.aload_n 0, 1, 0, 0) :: T79_16
def T79_14 : List Tok := (.invokestatic 49, 3, 178, 300000) :: T79_15
def T79_13 : List Tok := (.getfield 18, 3, 386, 284) :: T79_14
def T79_12 : List Tok := (.aload_n 0, 1, 0, 0) :: T79_13
def T79_11 : List Tok := (.getfield 18, 3, 386, 284) :: T79_12
def T79_10 : List Tok := (.aload_n 1, 1, 0, 0) :: T79_11
def T79_9 : List Tok := (.invokestatic 49, 3, 178, 300000) :: T79_10
def T79_8 : List Tok := (.getfield 15, 3, 385, 282) :: T79_9
def T79_7 : List Tok := (.aload_n 0, 1, 0, 0) :: T79_8
def T79_6 : List Tok := (.getfield 15, 3, 385, 282) :: T79_7
def T79_5 : List Tok := (.aload_n 1, 1, 0, 0) :: T79_6
def T79_4 : List Tok := (.invokestatic 49, 3, 178, 300000) :: T79_5
def T79_3 : List Tok := (.getfield 9, 3, 384, 279) :: T79_4
def T79_2 : List Tok := (.aload_n 0, 1, 0, 0) :: T79_3
def T79_1 : List Tok := (.getfield 9, 3, 384, 279) :: T79_2
def T79_0 : List Tok := (.aload_n 1, 1, 0, 0) :: T79_1
theorem o79_0 (hB : BytesOK) : okL 79 0 T79_0 = true := by
  have h := hB.1 79
  rw [show tk 79 = T79_0 from by decide +kernel] at h
  exact h
theorem o79_1 (hB : BytesOK) : okL 79 1 T79_1 = true := (okL_c (o79_0 hB)).2.2
theorem o79_2 (hB : BytesOK) : okL 79 4 T79_2 = true := (okL_c (o79_1 hB)).2.2
theorem o79_3 (hB : BytesOK) : okL 79 5 T79_3 = true := (okL_c (o79_2 hB)).2.2
theorem o79_4 (hB : BytesOK) : okL 79 8 T79_4 = true := (okL_c (o79_3 hB)).2.2
theorem o79_5 (hB : BytesOK) : okL 79 11 T79_5 = true := (okL_c (o79_4 hB)).2.2
theorem o79_6 (hB : BytesOK) : okL 79 12 T79_6 = true := (okL_c (o79_5 hB)).2.2
theorem o79_7 (hB : BytesOK) : okL 79 15 T79_7 = true := (okL_c (o79_6 hB)).2.2
theorem o79_8 (hB : BytesOK) : okL 79 16 T79_8 = true := (okL_c (o79_7 hB)).2.2
theorem o79_9 (hB : BytesOK) : okL 79 19 T79_9 = true := (okL_c (o79_8 hB)).2.2
theorem o79_10 (hB : BytesOK) : okL 79 22 T79_10 = true := (okL_c (o79_9 hB)).2.2
theorem o79_11 (hB : BytesOK) : okL 79 23 T79_11 = true := (okL_c (o79_10 hB)).2.2
theorem o79_12 (hB : BytesOK) : okL 79 26 T79_12 = true := (okL_c (o79_11 hB)).2.2
theorem o79_13 (hB : BytesOK) : okL 79 27 T79_13 = true := (okL_c (o79_12 hB)).2.2
theorem o79_14 (hB : BytesOK) : okL 79 30 T79_14 = true := (okL_c (o79_13 hB)).2.2
theorem o79_15 (hB : BytesOK) : okL 79 33 T79_15 = true := (okL_c (o79_14 hB)).2.2
theorem o79_16 (hB : BytesOK) : okL 79 34 T79_16 = true := (okL_c (o79_15 hB)).2.2
theorem o79_17 (hB : BytesOK) : okL 79 35 T79_17 = true := (okL_c (o79_16 hB)).2.2
theorem o79_18 (hB : BytesOK) : okL 79 38 T79_18 = true := (okL_c (o79_17 hB)).2.2
theorem o79_19 (hB : BytesOK) : okL 79 41 T79_19 = true := (okL_c (o79_18 hB)).2.2
theorem o79_20 (hB : BytesOK) : okL 79 42 T79_20 = true := (okL_c (o79_19 hB)).2.2
theorem o79_21 (hB : BytesOK) : okL 79 43 T79_21 = true := (okL_c (o79_20 hB)).2.2
theorem o79_22 (hB : BytesOK) : okL 79 46 T79_22 = true := (okL_c (o79_21 hB)).2.2
theorem o79_23 (hB : BytesOK) : okL 79 49 T79_23 = true := (okL_c (o79_22 hB)).2.2
theorem o79_24 (hB : BytesOK) : okL 79 50 T79_24 = true := (okL_c (o79_23 hB)).2.2
theorem o79_25 (hB : BytesOK) : okL 79 51 T79_25 = true := (okL_c (o79_24 hB)).2.2
theorem o79_26 (hB : BytesOK) : okL 79 54 T79_26 = true := (okL_c (o79_25 hB)).2.2
theorem o79_27 (hB : BytesOK) : okL 79 57 T79_27 = true := (okL_c (o79_26 hB)).2.2
theorem ml79 : mml 79 = 2 := by decide +kernel
theorem mr79 : mret 79 = none := by decide +kernel
theorem mg79 : kGood 79 = true := by decide +kernel

def T81_47 : List Tok := []
def T81_46 : List Tok := (.ireturn, 1, 0, 0) :: T81_47
def T81_45 : List Tok := (.getfield 22, 3, 448, 408) :: T81_46
def T81_44 : List Tok := (.aload_n 0, 1, 0, 0) :: T81_45
def T81_43 : List Tok := (.putfield 22, 3, 448, 408) :: T81_44
def T81_42 : List Tok := (.iadd, 1, 0, 0) :: T81_43
def T81_41 : List Tok := (.iload_n 3, 1, 0, 0) :: T81_42
def T81_40 : List Tok := (.getfield 22, 3, 448, 408) :: T81_41
def T81_39 : List Tok := (.dup, 1, 0, 0) :: T81_40
def T81_38 : List Tok := (.aload_n 0, 1, 0, 0) :: T81_39
def T81_37 : List Tok := (.goto (-33), 3, 0, 0) :: T81_38
def T81_36 : List Tok := (.iinc 4 1, 3, 0, 0) :: T81_37
def T81_35 : List Tok := (.iastore, 1, 0, 0) :: T81_36
def T81_34 : List Tok := (.l2i, 1, 0, 0) :: T81_35
def T81_33 : List Tok := (.land, 1, 0, 0) :: T81_34
def T81_32 : List Tok := (.ldc2_w 26, 3, 0, 669) :: T81_33
def T81_31 : List Tok := (.lshr, 1, 0, 0) :: T81_32
def T81_30 : List Tok := (.imul, 1, 0, 0) :: T81_31
def T81_29 : List Tok := (.iload 4, 2, 0, 0) :: T81_30
def T81_28 : List Tok := (.bipush 8, 2, 0, 0) :: T81_29
def T81_27 : List Tok := (.lload_n 1, 1, 0, 0) :: T81_28
def T81_26 : List Tok := (.iadd, 1, 0, 0) :: T81_27
def T81_25 : List Tok := (.iload 4, 2, 0, 0) :: T81_26
def T81_24 : List Tok := (.getfield 22, 3, 448, 408) :: T81_25
def T81_23 : List Tok := (.aload_n 0, 1, 0, 0) :: T81_24
def T81_22 : List Tok := (.getfield 9, 3, 449, 410) :: T81_23
def T81_21 : List Tok := (.aload_n 0, 1, 0, 0) :: T81_22
def T81_20 : List Tok := (.if_icmp .ge 33, 3, 0, 0) :: T81_21
def T81_19 : List Tok := (.iload_n 3, 1, 0, 0) :: T81_20
def T81_18 : List Tok := (.iload 4, 2, 0, 0) :: T81_19
def T81_17 : List Tok := (.istore 4, 2, 0, 0) :: T81_18
def T81_16 : List Tok := (.iconst 0, 1, 0, 0) :: T81_17
def T81_15 : List Tok := (.ireturn, 1, 0, 0) :: T81_16
def T81_14 : List Tok := (.bipush (-2), 2, 0, 0) :: T81_15
def T81_13 : List Tok := (.if_icmp .le 6, 3, 0, 0) :: T81_14
def T81_12 : List Tok := (.sipush 220, 3, 0, 0) :: T81_13
def T81_11 : List Tok := (.iadd, 1, 0, 0) :: T81_12
def T81_10 : List Tok := (.iload_n 3, 1, 0, 0) :: T81_11
def T81_9 : List Tok := (.getfield 22, 3, 448, 408) :: T81_10
def T81_8 : List Tok := (.aload_n 0, 1, 0, 0) :: T81_9
def T81_7 : List Tok := (.ireturn, 1, 0, 0) :: T81_8
def T81_6 : List Tok := (.iconst (-1), 1, 0, 0) :: T81_7
def T81_5 : List Tok := (.if_icmp .le 5, 3, 0, 0) :: T81_6
def T81_4 : List Tok := (.bipush 8, 2, 0, 0) :: T81_5
def T81_3 : List Tok := (.iload_n 3, 1, 0, 0) :: T81_4
def T81_2 : List Tok := (.if_icmp .lt 9, 3, 0, 0) :: T81_3
def T81_1 : List Tok := (.iconst 1, 1, 0, 0) :: T81_2
def T81_0 : List Tok := (.iload_n 3, 1, 0, 0) :: T81_1
theorem o81_0 (hB : BytesOK) : okL 81 0 T81_0 = true := by
  have h := hB.1 81
  rw [show tk 81 = T81_0 from by decide +kernel] at h
  exact h
theorem o81_1 (hB : BytesOK) : okL 81 1 T81_1 = true := (okL_c (o81_0 hB)).2.2
theorem o81_2 (hB : BytesOK) : okL 81 2 T81_2 = true := (okL_c (o81_1 hB)).2.2
theorem o81_3 (hB : BytesOK) : okL 81 5 T81_3 = true := (okL_c (o81_2 hB)).2.2
theorem o81_4 (hB : BytesOK) : okL 81 6 T81_4 = true := (okL_c (o81_3 hB)).2.2
theorem o81_5 (hB : BytesOK) : okL 81 8 T81_5 = true := (okL_c (o81_4 hB)).2.2
theorem o81_6 (hB : BytesOK) : okL 81 11 T81_6 = true := (okL_c (o81_5 hB)).2.2
theorem o81_7 (hB : BytesOK) : okL 81 12 T81_7 = true := (okL_c (o81_6 hB)).2.2
theorem o81_8 (hB : BytesOK) : okL 81 13 T81_8 = true := (okL_c (o81_7 hB)).2.2
theorem o81_9 (hB : BytesOK) : okL 81 14 T81_9 = true := (okL_c (o81_8 hB)).2.2
theorem o81_10 (hB : BytesOK) : okL 81 17 T81_10 = true := (okL_c (o81_9 hB)).2.2
theorem o81_11 (hB : BytesOK) : okL 81 18 T81_11 = true := (okL_c (o81_10 hB)).2.2
theorem o81_12 (hB : BytesOK) : okL 81 19 T81_12 = true := (okL_c (o81_11 hB)).2.2
theorem o81_13 (hB : BytesOK) : okL 81 22 T81_13 = true := (okL_c (o81_12 hB)).2.2
theorem o81_14 (hB : BytesOK) : okL 81 25 T81_14 = true := (okL_c (o81_13 hB)).2.2
theorem o81_15 (hB : BytesOK) : okL 81 27 T81_15 = true := (okL_c (o81_14 hB)).2.2
theorem o81_16 (hB : BytesOK) : okL 81 28 T81_16 = true := (okL_c (o81_15 hB)).2.2
theorem o81_17 (hB : BytesOK) : okL 81 29 T81_17 = true := (okL_c (o81_16 hB)).2.2
theorem o81_18 (hB : BytesOK) : okL 81 31 T81_18 = true := (okL_c (o81_17 hB)).2.2
theorem o81_19 (hB : BytesOK) : okL 81 33 T81_19 = true := (okL_c (o81_18 hB)).2.2
theorem o81_20 (hB : BytesOK) : okL 81 34 T81_20 = true := (okL_c (o81_19 hB)).2.2
theorem o81_21 (hB : BytesOK) : okL 81 37 T81_21 = true := (okL_c (o81_20 hB)).2.2
theorem o81_22 (hB : BytesOK) : okL 81 38 T81_22 = true := (okL_c (o81_21 hB)).2.2
theorem o81_23 (hB : BytesOK) : okL 81 41 T81_23 = true := (okL_c (o81_22 hB)).2.2
theorem o81_24 (hB : BytesOK) : okL 81 42 T81_24 = true := (okL_c (o81_23 hB)).2.2
theorem o81_25 (hB : BytesOK) : okL 81 45 T81_25 = true := (okL_c (o81_24 hB)).2.2
theorem o81_26 (hB : BytesOK) : okL 81 47 T81_26 = true := (okL_c (o81_25 hB)).2.2
theorem o81_27 (hB : BytesOK) : okL 81 48 T81_27 = true := (okL_c (o81_26 hB)).2.2
theorem o81_28 (hB : BytesOK) : okL 81 49 T81_28 = true := (okL_c (o81_27 hB)).2.2
theorem o81_29 (hB : BytesOK) : okL 81 51 T81_29 = true := (okL_c (o81_28 hB)).2.2
theorem o81_30 (hB : BytesOK) : okL 81 53 T81_30 = true := (okL_c (o81_29 hB)).2.2
theorem o81_31 (hB : BytesOK) : okL 81 54 T81_31 = true := (okL_c (o81_30 hB)).2.2
theorem o81_32 (hB : BytesOK) : okL 81 55 T81_32 = true := (okL_c (o81_31 hB)).2.2
theorem o81_33 (hB : BytesOK) : okL 81 58 T81_33 = true := (okL_c (o81_32 hB)).2.2
theorem o81_34 (hB : BytesOK) : okL 81 59 T81_34 = true := (okL_c (o81_33 hB)).2.2
theorem o81_35 (hB : BytesOK) : okL 81 60 T81_35 = true := (okL_c (o81_34 hB)).2.2
theorem o81_36 (hB : BytesOK) : okL 81 61 T81_36 = true := (okL_c (o81_35 hB)).2.2
theorem o81_37 (hB : BytesOK) : okL 81 64 T81_37 = true := (okL_c (o81_36 hB)).2.2
theorem o81_38 (hB : BytesOK) : okL 81 67 T81_38 = true := (okL_c (o81_37 hB)).2.2
theorem o81_39 (hB : BytesOK) : okL 81 68 T81_39 = true := (okL_c (o81_38 hB)).2.2
theorem o81_40 (hB : BytesOK) : okL 81 69 T81_40 = true := (okL_c (o81_39 hB)).2.2
theorem o81_41 (hB : BytesOK) : okL 81 72 T81_41 = true := (okL_c (o81_40 hB)).2.2
theorem o81_42 (hB : BytesOK) : okL 81 73 T81_42 = true := (okL_c (o81_41 hB)).2.2
theorem o81_43 (hB : BytesOK) : okL 81 74 T81_43 = true := (okL_c (o81_42 hB)).2.2
theorem o81_44 (hB : BytesOK) : okL 81 77 T81_44 = true := (okL_c (o81_43 hB)).2.2
theorem o81_45 (hB : BytesOK) : okL 81 78 T81_45 = true := (okL_c (o81_44 hB)).2.2
theorem o81_46 (hB : BytesOK) : okL 81 81 T81_46 = true := (okL_c (o81_45 hB)).2.2
theorem ml81 : mml 81 = 5 := by decide +kernel
theorem mr81 : mret 81 = some .int := by decide +kernel
theorem mg81 : kGood 81 = true := by decide +kernel

def T82_37 : List Tok := []
def T82_36 : List Tok := (.ireturn, 1, 0, 0) :: T82_37
def T82_35 : List Tok := (.getfield 31, 3, 455, 417) :: T82_36
def T82_34 : List Tok := (.aload_n 0, 1, 0, 0) :: T82_35
def T82_33 : List Tok := (.goto (-42), 3, 0, 0) :: T82_34
def T82_32 : List Tok := (.iinc 1 1, 3, 0, 0) :: T82_33
def T82_31 : List Tok := (.invokevirtual 47, 3, 90, 690) :: T82_32
def T82_30 : List Tok := (.aload_n 0, 1, 0, 0) :: T82_31
def T82_29 : List Tok := (.goto 7, 3, 0, 0) :: T82_30
def T82_28 : List Tok := (.pop, 1, 0, 0) :: T82_29
def T82_27 : List Tok := (.invokevirtual 43, 3, 83, 686) :: T82_28
def T82_26 : List Tok := (.aload_n 0, 1, 0, 0) :: T82_27
def T82_25 : List Tok := (.if_icmp .ne 11, 3, 0, 0) :: T82_26
def T82_24 : List Tok := (.bipush 9, 2, 0, 0) :: T82_25
def T82_23 : List Tok := (.iload_n 1, 1, 0, 0) :: T82_24
def T82_22 : List Tok := (.ifCond .ge 27, 3, 0, 0) :: T82_23
def T82_21 : List Tok := (.getfield 31, 3, 455, 417) :: T82_22
def T82_20 : List Tok := (.aload_n 0, 1, 0, 0) :: T82_21
def T82_19 : List Tok := (.if_icmp .eq 34, 3, 0, 0) :: T82_20
def T82_18 : List Tok := (.iconst 3, 1, 0, 0) :: T82_19
def T82_17 : List Tok := (.getfield 40, 3, 451, 413) :: T82_18
def T82_16 : List Tok := (.aload_n 0, 1, 0, 0) :: T82_17
def T82_15 : List Tok := (.if_icmp .gt 42, 3, 0, 0) :: T82_16
def T82_14 : List Tok := (.bipush 9, 2, 0, 0) :: T82_15
def T82_13 : List Tok := (.iload_n 1, 1, 0, 0) :: T82_14
def T82_12 : List Tok := (.istore_n 1, 1, 0, 0) :: T82_13
def T82_11 : List Tok := (.iconst 0, 1, 0, 0) :: T82_12
def T82_10 : List Tok := (.invokevirtual 37, 3, 84, 682) :: T82_11
def T82_9 : List Tok := (.aload_n 0, 1, 0, 0) :: T82_10
def T82_8 : List Tok := (.putfield 34, 3, 453, 415) :: T82_9
def T82_7 : List Tok := (.iconst 0, 1, 0, 0) :: T82_8
def T82_6 : List Tok := (.aload_n 0, 1, 0, 0) :: T82_7
def T82_5 : List Tok := (.putfield 31, 3, 455, 417) :: T82_6
def T82_4 : List Tok := (.iconst (-1), 1, 0, 0) :: T82_5
def T82_3 : List Tok := (.aload_n 0, 1, 0, 0) :: T82_4
def T82_2 : List Tok := (.invokevirtual 28, 3, 98, 678) :: T82_3
def T82_1 : List Tok := (.getfield 18, 3, 450, 411) :: T82_2
def T82_0 : List Tok := (.aload_n 0, 1, 0, 0) :: T82_1
theorem o82_0 (hB : BytesOK) : okL 82 0 T82_0 = true := by
  have h := hB.1 82
  rw [show tk 82 = T82_0 from by decide +kernel] at h
  exact h
theorem o82_1 (hB : BytesOK) : okL 82 1 T82_1 = true := (okL_c (o82_0 hB)).2.2
theorem o82_2 (hB : BytesOK) : okL 82 4 T82_2 = true := (okL_c (o82_1 hB)).2.2
theorem o82_3 (hB : BytesOK) : okL 82 7 T82_3 = true := (okL_c (o82_2 hB)).2.2
theorem o82_4 (hB : BytesOK) : okL 82 8 T82_4 = true := (okL_c (o82_3 hB)).2.2
theorem o82_5 (hB : BytesOK) : okL 82 9 T82_5 = true := (okL_c (o82_4 hB)).2.2
theorem o82_6 (hB : BytesOK) : okL 82 12 T82_6 = true := (okL_c (o82_5 hB)).2.2
theorem o82_7 (hB : BytesOK) : okL 82 13 T82_7 = true := (okL_c (o82_6 hB)).2.2
theorem o82_8 (hB : BytesOK) : okL 82 14 T82_8 = true := (okL_c (o82_7 hB)).2.2
theorem o82_9 (hB : BytesOK) : okL 82 17 T82_9 = true := (okL_c (o82_8 hB)).2.2
theorem o82_10 (hB : BytesOK) : okL 82 18 T82_10 = true := (okL_c (o82_9 hB)).2.2
theorem o82_11 (hB : BytesOK) : okL 82 21 T82_11 = true := (okL_c (o82_10 hB)).2.2
theorem o82_12 (hB : BytesOK) : okL 82 22 T82_12 = true := (okL_c (o82_11 hB)).2.2
theorem o82_13 (hB : BytesOK) : okL 82 23 T82_13 = true := (okL_c (o82_12 hB)).2.2
theorem o82_14 (hB : BytesOK) : okL 82 24 T82_14 = true := (okL_c (o82_13 hB)).2.2
theorem o82_15 (hB : BytesOK) : okL 82 26 T82_15 = true := (okL_c (o82_14 hB)).2.2
theorem o82_16 (hB : BytesOK) : okL 82 29 T82_16 = true := (okL_c (o82_15 hB)).2.2
theorem o82_17 (hB : BytesOK) : okL 82 30 T82_17 = true := (okL_c (o82_16 hB)).2.2
theorem o82_18 (hB : BytesOK) : okL 82 33 T82_18 = true := (okL_c (o82_17 hB)).2.2
theorem o82_19 (hB : BytesOK) : okL 82 34 T82_19 = true := (okL_c (o82_18 hB)).2.2
theorem o82_20 (hB : BytesOK) : okL 82 37 T82_20 = true := (okL_c (o82_19 hB)).2.2
theorem o82_21 (hB : BytesOK) : okL 82 38 T82_21 = true := (okL_c (o82_20 hB)).2.2
theorem o82_22 (hB : BytesOK) : okL 82 41 T82_22 = true := (okL_c (o82_21 hB)).2.2
theorem o82_23 (hB : BytesOK) : okL 82 44 T82_23 = true := (okL_c (o82_22 hB)).2.2
theorem o82_24 (hB : BytesOK) : okL 82 45 T82_24 = true := (okL_c (o82_23 hB)).2.2
theorem o82_25 (hB : BytesOK) : okL 82 47 T82_25 = true := (okL_c (o82_24 hB)).2.2
theorem o82_26 (hB : BytesOK) : okL 82 50 T82_26 = true := (okL_c (o82_25 hB)).2.2
theorem o82_27 (hB : BytesOK) : okL 82 51 T82_27 = true := (okL_c (o82_26 hB)).2.2
theorem o82_28 (hB : BytesOK) : okL 82 54 T82_28 = true := (okL_c (o82_27 hB)).2.2
theorem o82_29 (hB : BytesOK) : okL 82 55 T82_29 = true := (okL_c (o82_28 hB)).2.2
theorem o82_30 (hB : BytesOK) : okL 82 58 T82_30 = true := (okL_c (o82_29 hB)).2.2
theorem o82_31 (hB : BytesOK) : okL 82 59 T82_31 = true := (okL_c (o82_30 hB)).2.2
theorem o82_32 (hB : BytesOK) : okL 82 62 T82_32 = true := (okL_c (o82_31 hB)).2.2
theorem o82_33 (hB : BytesOK) : okL 82 65 T82_33 = true := (okL_c (o82_32 hB)).2.2
theorem o82_34 (hB : BytesOK) : okL 82 68 T82_34 = true := (okL_c (o82_33 hB)).2.2
theorem o82_35 (hB : BytesOK) : okL 82 69 T82_35 = true := (okL_c (o82_34 hB)).2.2
theorem o82_36 (hB : BytesOK) : okL 82 72 T82_36 = true := (okL_c (o82_35 hB)).2.2
theorem ml82 : mml 82 = 2 := by decide +kernel
theorem mr82 : mret 82 = some .int := by decide +kernel
theorem mg82 : kGood 82 = true := by decide +kernel

def T83_9 : List Tok := []
def T83_8 : List Tok := (.ireturn, 1, 0, 0) :: T83_9
def T83_7 : List Tok := (.iconst 0, 1, 0, 0) :: T83_8
def T83_6 : List Tok := (.putfield 31, 3, 455, 417) :: T83_7
def T83_5 : List Tok := (.getfield 50, 3, 452, 414) :: T83_6
def T83_4 : List Tok := (.aload_n 0, 1, 0, 0) :: T83_5
def T83_3 : List Tok := (.aload_n 0, 1, 0, 0) :: T83_4
def T83_2 : List Tok := (.ifCond .ge 11, 3, 0, 0) :: T83_3
def T83_1 : List Tok := (.getfield 31, 3, 455, 417) :: T83_2
def T83_0 : List Tok := (.aload_n 0, 1, 0, 0) :: T83_1
theorem o83_0 (hB : BytesOK) : okL 83 0 T83_0 = true := by
  have h := hB.1 83
  rw [show tk 83 = T83_0 from by decide +kernel] at h
  exact h
theorem o83_1 (hB : BytesOK) : okL 83 1 T83_1 = true := (okL_c (o83_0 hB)).2.2
theorem o83_2 (hB : BytesOK) : okL 83 4 T83_2 = true := (okL_c (o83_1 hB)).2.2
theorem o83_3 (hB : BytesOK) : okL 83 7 T83_3 = true := (okL_c (o83_2 hB)).2.2
theorem o83_4 (hB : BytesOK) : okL 83 8 T83_4 = true := (okL_c (o83_3 hB)).2.2
theorem o83_5 (hB : BytesOK) : okL 83 9 T83_5 = true := (okL_c (o83_4 hB)).2.2
theorem o83_6 (hB : BytesOK) : okL 83 12 T83_6 = true := (okL_c (o83_5 hB)).2.2
theorem o83_7 (hB : BytesOK) : okL 83 15 T83_7 = true := (okL_c (o83_6 hB)).2.2
theorem o83_8 (hB : BytesOK) : okL 83 16 T83_8 = true := (okL_c (o83_7 hB)).2.2
theorem ml83 : mml 83 = 1 := by decide +kernel
theorem mr83 : mret 83 = some .boolean := by decide +kernel
theorem mg83 : kGood 83 = true := by decide +kernel

def T84_120 : List Tok := []
def T84_119 : List Tok := (.return_, 1, 0, 0) :: T84_120
def T84_118 : List Tok := (.putfield 34, 3, 453, 415) :: T84_119
def T84_117 : List Tok := (.iload_n 1, 1, 0, 0) :: T84_118
def T84_116 : List Tok := (.aload_n 0, 1, 0, 0) :: T84_117
def T84_115 : List Tok := (.iinc 1 1, 3, 0, 0) :: T84_116
def T84_114 : List Tok := (.putfield 40, 3, 451, 413) :: T84_115
def T84_113 : List Tok := (.iconst 2, 1, 0, 0) :: T84_114
def T84_112 : List Tok := (.aload_n 0, 1, 0, 0) :: T84_113
def T84_111 : List Tok := (.goto (-64), 3, 0, 0) :: T84_112
def T84_110 : List Tok := (.iinc 1 1, 3, 0, 0) :: T84_111
def T84_109 : List Tok := (.putfield 53, 3, 454, 416) :: T84_110
def T84_108 : List Tok := (.isub, 1, 0, 0) :: T84_109
def T84_107 : List Tok := (.bipush 48, 2, 0, 0) :: T84_108
def T84_106 : List Tok := (.iadd, 1, 0, 0) :: T84_107
def T84_105 : List Tok := (.iaload, 1, 0, 0) :: T84_106
def T84_104 : List Tok := (.iload_n 1, 1, 0, 0) :: T84_105
def T84_103 : List Tok := (.getfield 9, 3, 449, 410) :: T84_104
def T84_102 : List Tok := (.aload_n 0, 1, 0, 0) :: T84_103
def T84_101 : List Tok := (.imul, 1, 0, 0) :: T84_102
def T84_100 : List Tok := (.bipush 10, 2, 0, 0) :: T84_101
def T84_99 : List Tok := (.getfield 53, 3, 454, 416) :: T84_100
def T84_98 : List Tok := (.aload_n 0, 1, 0, 0) :: T84_99
def T84_97 : List Tok := (.aload_n 0, 1, 0, 0) :: T84_98
def T84_96 : List Tok := (.if_icmp .ge 24, 3, 0, 0) :: T84_97
def T84_95 : List Tok := (.sipush 1000, 3, 0, 0) :: T84_96
def T84_94 : List Tok := (.getfield 53, 3, 454, 416) :: T84_95
def T84_93 : List Tok := (.aload_n 0, 1, 0, 0) :: T84_94
def T84_92 : List Tok := (.if_icmp .gt 48, 3, 0, 0) :: T84_93
def T84_91 : List Tok := (.bipush 57, 2, 0, 0) :: T84_92
def T84_90 : List Tok := (.iaload, 1, 0, 0) :: T84_91
def T84_89 : List Tok := (.iload_n 1, 1, 0, 0) :: T84_90
def T84_88 : List Tok := (.getfield 9, 3, 449, 410) :: T84_89
def T84_87 : List Tok := (.aload_n 0, 1, 0, 0) :: T84_88
def T84_86 : List Tok := (.if_icmp .lt 59, 3, 0, 0) :: T84_87
def T84_85 : List Tok := (.bipush 48, 2, 0, 0) :: T84_86
def T84_84 : List Tok := (.iaload, 1, 0, 0) :: T84_85
def T84_83 : List Tok := (.iload_n 1, 1, 0, 0) :: T84_84
def T84_82 : List Tok := (.getfield 9, 3, 449, 410) :: T84_83
def T84_81 : List Tok := (.aload_n 0, 1, 0, 0) :: T84_82
def T84_80 : List Tok := (.if_icmp .ge 70, 3, 0, 0) :: T84_81
def T84_79 : List Tok := (.getfield 22, 3, 448, 408) :: T84_80
def T84_78 : List Tok := (.aload_n 0, 1, 0, 0) :: T84_79
def T84_77 : List Tok := (.iload_n 1, 1, 0, 0) :: T84_78
def T84_76 : List Tok := (.putfield 40, 3, 451, 413) :: T84_77
def T84_75 : List Tok := (.iconst 1, 1, 0, 0) :: T84_76
def T84_74 : List Tok := (.aload_n 0, 1, 0, 0) :: T84_75
def T84_73 : List Tok := (.if_icmp .gt 75, 3, 0, 0) :: T84_74
def T84_72 : List Tok := (.bipush 57, 2, 0, 0) :: T84_73
def T84_71 : List Tok := (.iaload, 1, 0, 0) :: T84_72
def T84_70 : List Tok := (.iload_n 1, 1, 0, 0) :: T84_71
def T84_69 : List Tok := (.getfield 9, 3, 449, 410) :: T84_70
def T84_68 : List Tok := (.aload_n 0, 1, 0, 0) :: T84_69
def T84_67 : List Tok := (.if_icmp .lt 86, 3, 0, 0) :: T84_68
def T84_66 : List Tok := (.bipush 48, 2, 0, 0) :: T84_67
def T84_65 : List Tok := (.iaload, 1, 0, 0) :: T84_66
def T84_64 : List Tok := (.iload_n 1, 1, 0, 0) :: T84_65
def T84_63 : List Tok := (.getfield 9, 3, 449, 410) :: T84_64
def T84_62 : List Tok := (.aload_n 0, 1, 0, 0) :: T84_63
def T84_61 : List Tok := (.goto (-33), 3, 0, 0) :: T84_62
def T84_60 : List Tok := (.iinc 1 1, 3, 0, 0) :: T84_61
def T84_59 : List Tok := (.if_icmp .gt 111, 3, 0, 0) :: T84_60
def T84_58 : List Tok := (.bipush 122, 2, 0, 0) :: T84_59
def T84_57 : List Tok := (.iaload, 1, 0, 0) :: T84_58
def T84_56 : List Tok := (.iload_n 1, 1, 0, 0) :: T84_57
def T84_55 : List Tok := (.getfield 9, 3, 449, 410) :: T84_56
def T84_54 : List Tok := (.aload_n 0, 1, 0, 0) :: T84_55
def T84_53 : List Tok := (.if_icmp .lt 122, 3, 0, 0) :: T84_54
def T84_52 : List Tok := (.bipush 97, 2, 0, 0) :: T84_53
def T84_51 : List Tok := (.iaload, 1, 0, 0) :: T84_52
def T84_50 : List Tok := (.iload_n 1, 1, 0, 0) :: T84_51
def T84_49 : List Tok := (.getfield 9, 3, 449, 410) :: T84_50
def T84_48 : List Tok := (.aload_n 0, 1, 0, 0) :: T84_49
def T84_47 : List Tok := (.if_icmp .ge 133, 3, 0, 0) :: T84_48
def T84_46 : List Tok := (.getfield 22, 3, 448, 408) :: T84_47
def T84_45 : List Tok := (.aload_n 0, 1, 0, 0) :: T84_46
def T84_44 : List Tok := (.iload_n 1, 1, 0, 0) :: T84_45
def T84_43 : List Tok := (.putfield 40, 3, 451, 413) :: T84_44
def T84_42 : List Tok := (.iconst 0, 1, 0, 0) :: T84_43
def T84_41 : List Tok := (.aload_n 0, 1, 0, 0) :: T84_42
def T84_40 : List Tok := (.if_icmp .gt 44, 3, 0, 0) :: T84_41
def T84_39 : List Tok := (.bipush 122, 2, 0, 0) :: T84_40
def T84_38 : List Tok := (.iaload, 1, 0, 0) :: T84_39
def T84_37 : List Tok := (.iload_n 1, 1, 0, 0) :: T84_38
def T84_36 : List Tok := (.getfield 9, 3, 449, 410) :: T84_37
def T84_35 : List Tok := (.aload_n 0, 1, 0, 0) :: T84_36
def T84_34 : List Tok := (.if_icmp .lt 55, 3, 0, 0) :: T84_35
def T84_33 : List Tok := (.bipush 97, 2, 0, 0) :: T84_34
def T84_32 : List Tok := (.iaload, 1, 0, 0) :: T84_33
def T84_31 : List Tok := (.iload_n 1, 1, 0, 0) :: T84_32
def T84_30 : List Tok := (.getfield 9, 3, 449, 410) :: T84_31
def T84_29 : List Tok := (.aload_n 0, 1, 0, 0) :: T84_30
def T84_28 : List Tok := (.goto 168, 3, 0, 0) :: T84_29
def T84_27 : List Tok := (.putfield 40, 3, 451, 413) :: T84_28
def T84_26 : List Tok := (.iconst 3, 1, 0, 0) :: T84_27
def T84_25 : List Tok := (.aload_n 0, 1, 0, 0) :: T84_26
def T84_24 : List Tok := (.if_icmp .lt 11, 3, 0, 0) :: T84_25
def T84_23 : List Tok := (.getfield 22, 3, 448, 408) :: T84_24
def T84_22 : List Tok := (.aload_n 0, 1, 0, 0) :: T84_23
def T84_21 : List Tok := (.iload_n 1, 1, 0, 0) :: T84_22
def T84_20 : List Tok := (.putfield 53, 3, 454, 416) :: T84_21
def T84_19 : List Tok := (.iconst 0, 1, 0, 0) :: T84_20
def T84_18 : List Tok := (.aload_n 0, 1, 0, 0) :: T84_19
def T84_17 : List Tok := (.putfield 50, 3, 452, 414) :: T84_18
def T84_16 : List Tok := (.iload_n 1, 1, 0, 0) :: T84_17
def T84_15 : List Tok := (.aload_n 0, 1, 0, 0) :: T84_16
def T84_14 : List Tok := (.goto (-22), 3, 0, 0) :: T84_15
def T84_13 : List Tok := (.iinc 1 1, 3, 0, 0) :: T84_14
def T84_12 : List Tok := (.if_icmp .ne 9, 3, 0, 0) :: T84_13
def T84_11 : List Tok := (.bipush 32, 2, 0, 0) :: T84_12
def T84_10 : List Tok := (.iaload, 1, 0, 0) :: T84_11
def T84_9 : List Tok := (.iload_n 1, 1, 0, 0) :: T84_10
def T84_8 : List Tok := (.getfield 9, 3, 449, 410) :: T84_9
def T84_7 : List Tok := (.aload_n 0, 1, 0, 0) :: T84_8
def T84_6 : List Tok := (.if_icmp .ge 20, 3, 0, 0) :: T84_7
def T84_5 : List Tok := (.getfield 22, 3, 448, 408) :: T84_6
def T84_4 : List Tok := (.aload_n 0, 1, 0, 0) :: T84_5
def T84_3 : List Tok := (.iload_n 1, 1, 0, 0) :: T84_4
def T84_2 : List Tok := (.istore_n 1, 1, 0, 0) :: T84_3
def T84_1 : List Tok := (.getfield 34, 3, 453, 415) :: T84_2
def T84_0 : List Tok := (.aload_n 0, 1, 0, 0) :: T84_1
theorem o84_0 (hB : BytesOK) : okL 84 0 T84_0 = true := by
  have h := hB.1 84
  rw [show tk 84 = T84_0 from by decide +kernel] at h
  exact h
theorem o84_1 (hB : BytesOK) : okL 84 1 T84_1 = true := (okL_c (o84_0 hB)).2.2
theorem o84_2 (hB : BytesOK) : okL 84 4 T84_2 = true := (okL_c (o84_1 hB)).2.2
theorem o84_3 (hB : BytesOK) : okL 84 5 T84_3 = true := (okL_c (o84_2 hB)).2.2
theorem o84_4 (hB : BytesOK) : okL 84 6 T84_4 = true := (okL_c (o84_3 hB)).2.2
theorem o84_5 (hB : BytesOK) : okL 84 7 T84_5 = true := (okL_c (o84_4 hB)).2.2
theorem o84_6 (hB : BytesOK) : okL 84 10 T84_6 = true := (okL_c (o84_5 hB)).2.2
theorem o84_7 (hB : BytesOK) : okL 84 13 T84_7 = true := (okL_c (o84_6 hB)).2.2
theorem o84_8 (hB : BytesOK) : okL 84 14 T84_8 = true := (okL_c (o84_7 hB)).2.2
theorem o84_9 (hB : BytesOK) : okL 84 17 T84_9 = true := (okL_c (o84_8 hB)).2.2
theorem o84_10 (hB : BytesOK) : okL 84 18 T84_10 = true := (okL_c (o84_9 hB)).2.2
theorem o84_11 (hB : BytesOK) : okL 84 19 T84_11 = true := (okL_c (o84_10 hB)).2.2
theorem o84_12 (hB : BytesOK) : okL 84 21 T84_12 = true := (okL_c (o84_11 hB)).2.2
theorem o84_13 (hB : BytesOK) : okL 84 24 T84_13 = true := (okL_c (o84_12 hB)).2.2
theorem o84_14 (hB : BytesOK) : okL 84 27 T84_14 = true := (okL_c (o84_13 hB)).2.2
theorem o84_15 (hB : BytesOK) : okL 84 30 T84_15 = true := (okL_c (o84_14 hB)).2.2
theorem o84_16 (hB : BytesOK) : okL 84 31 T84_16 = true := (okL_c (o84_15 hB)).2.2
theorem o84_17 (hB : BytesOK) : okL 84 32 T84_17 = true := (okL_c (o84_16 hB)).2.2
theorem o84_18 (hB : BytesOK) : okL 84 35 T84_18 = true := (okL_c (o84_17 hB)).2.2
theorem o84_19 (hB : BytesOK) : okL 84 36 T84_19 = true := (okL_c (o84_18 hB)).2.2
theorem o84_20 (hB : BytesOK) : okL 84 37 T84_20 = true := (okL_c (o84_19 hB)).2.2
theorem o84_21 (hB : BytesOK) : okL 84 40 T84_21 = true := (okL_c (o84_20 hB)).2.2
theorem o84_22 (hB : BytesOK) : okL 84 41 T84_22 = true := (okL_c (o84_21 hB)).2.2
theorem o84_23 (hB : BytesOK) : okL 84 42 T84_23 = true := (okL_c (o84_22 hB)).2.2
theorem o84_24 (hB : BytesOK) : okL 84 45 T84_24 = true := (okL_c (o84_23 hB)).2.2
theorem o84_25 (hB : BytesOK) : okL 84 48 T84_25 = true := (okL_c (o84_24 hB)).2.2
theorem o84_26 (hB : BytesOK) : okL 84 49 T84_26 = true := (okL_c (o84_25 hB)).2.2
theorem o84_27 (hB : BytesOK) : okL 84 50 T84_27 = true := (okL_c (o84_26 hB)).2.2
theorem o84_28 (hB : BytesOK) : okL 84 53 T84_28 = true := (okL_c (o84_27 hB)).2.2
theorem o84_29 (hB : BytesOK) : okL 84 56 T84_29 = true := (okL_c (o84_28 hB)).2.2
theorem o84_30 (hB : BytesOK) : okL 84 57 T84_30 = true := (okL_c (o84_29 hB)).2.2
theorem o84_31 (hB : BytesOK) : okL 84 60 T84_31 = true := (okL_c (o84_30 hB)).2.2
theorem o84_32 (hB : BytesOK) : okL 84 61 T84_32 = true := (okL_c (o84_31 hB)).2.2
theorem o84_33 (hB : BytesOK) : okL 84 62 T84_33 = true := (okL_c (o84_32 hB)).2.2
theorem o84_34 (hB : BytesOK) : okL 84 64 T84_34 = true := (okL_c (o84_33 hB)).2.2
theorem o84_35 (hB : BytesOK) : okL 84 67 T84_35 = true := (okL_c (o84_34 hB)).2.2
theorem o84_36 (hB : BytesOK) : okL 84 68 T84_36 = true := (okL_c (o84_35 hB)).2.2
theorem o84_37 (hB : BytesOK) : okL 84 71 T84_37 = true := (okL_c (o84_36 hB)).2.2
theorem o84_38 (hB : BytesOK) : okL 84 72 T84_38 = true := (okL_c (o84_37 hB)).2.2
theorem o84_39 (hB : BytesOK) : okL 84 73 T84_39 = true := (okL_c (o84_38 hB)).2.2
theorem o84_40 (hB : BytesOK) : okL 84 75 T84_40 = true := (okL_c (o84_39 hB)).2.2
theorem o84_41 (hB : BytesOK) : okL 84 78 T84_41 = true := (okL_c (o84_40 hB)).2.2
theorem o84_42 (hB : BytesOK) : okL 84 79 T84_42 = true := (okL_c (o84_41 hB)).2.2
theorem o84_43 (hB : BytesOK) : okL 84 80 T84_43 = true := (okL_c (o84_42 hB)).2.2
theorem o84_44 (hB : BytesOK) : okL 84 83 T84_44 = true := (okL_c (o84_43 hB)).2.2
theorem o84_45 (hB : BytesOK) : okL 84 84 T84_45 = true := (okL_c (o84_44 hB)).2.2
theorem o84_46 (hB : BytesOK) : okL 84 85 T84_46 = true := (okL_c (o84_45 hB)).2.2
theorem o84_47 (hB : BytesOK) : okL 84 88 T84_47 = true := (okL_c (o84_46 hB)).2.2
theorem o84_48 (hB : BytesOK) : okL 84 91 T84_48 = true := (okL_c (o84_47 hB)).2.2
theorem o84_49 (hB : BytesOK) : okL 84 92 T84_49 = true := (okL_c (o84_48 hB)).2.2
theorem o84_50 (hB : BytesOK) : okL 84 95 T84_50 = true := (okL_c (o84_49 hB)).2.2
theorem o84_51 (hB : BytesOK) : okL 84 96 T84_51 = true := (okL_c (o84_50 hB)).2.2
theorem o84_52 (hB : BytesOK) : okL 84 97 T84_52 = true := (okL_c (o84_51 hB)).2.2
theorem o84_53 (hB : BytesOK) : okL 84 99 T84_53 = true := (okL_c (o84_52 hB)).2.2
theorem o84_54 (hB : BytesOK) : okL 84 102 T84_54 = true := (okL_c (o84_53 hB)).2.2
theorem o84_55 (hB : BytesOK) : okL 84 103 T84_55 = true := (okL_c (o84_54 hB)).2.2
theorem o84_56 (hB : BytesOK) : okL 84 106 T84_56 = true := (okL_c (o84_55 hB)).2.2
theorem o84_57 (hB : BytesOK) : okL 84 107 T84_57 = true := (okL_c (o84_56 hB)).2.2
theorem o84_58 (hB : BytesOK) : okL 84 108 T84_58 = true := (okL_c (o84_57 hB)).2.2
theorem o84_59 (hB : BytesOK) : okL 84 110 T84_59 = true := (okL_c (o84_58 hB)).2.2
theorem o84_60 (hB : BytesOK) : okL 84 113 T84_60 = true := (okL_c (o84_59 hB)).2.2
theorem o84_61 (hB : BytesOK) : okL 84 116 T84_61 = true := (okL_c (o84_60 hB)).2.2
theorem o84_62 (hB : BytesOK) : okL 84 119 T84_62 = true := (okL_c (o84_61 hB)).2.2
theorem o84_63 (hB : BytesOK) : okL 84 120 T84_63 = true := (okL_c (o84_62 hB)).2.2
theorem o84_64 (hB : BytesOK) : okL 84 123 T84_64 = true := (okL_c (o84_63 hB)).2.2
theorem o84_65 (hB : BytesOK) : okL 84 124 T84_65 = true := (okL_c (o84_64 hB)).2.2
theorem o84_66 (hB : BytesOK) : okL 84 125 T84_66 = true := (okL_c (o84_65 hB)).2.2
theorem o84_67 (hB : BytesOK) : okL 84 127 T84_67 = true := (okL_c (o84_66 hB)).2.2
theorem o84_68 (hB : BytesOK) : okL 84 130 T84_68 = true := (okL_c (o84_67 hB)).2.2
theorem o84_69 (hB : BytesOK) : okL 84 131 T84_69 = true := (okL_c (o84_68 hB)).2.2
theorem o84_70 (hB : BytesOK) : okL 84 134 T84_70 = true := (okL_c (o84_69 hB)).2.2
theorem o84_71 (hB : BytesOK) : okL 84 135 T84_71 = true := (okL_c (o84_70 hB)).2.2
theorem o84_72 (hB : BytesOK) : okL 84 136 T84_72 = true := (okL_c (o84_71 hB)).2.2
theorem o84_73 (hB : BytesOK) : okL 84 138 T84_73 = true := (okL_c (o84_72 hB)).2.2
theorem o84_74 (hB : BytesOK) : okL 84 141 T84_74 = true := (okL_c (o84_73 hB)).2.2
theorem o84_75 (hB : BytesOK) : okL 84 142 T84_75 = true := (okL_c (o84_74 hB)).2.2
theorem o84_76 (hB : BytesOK) : okL 84 143 T84_76 = true := (okL_c (o84_75 hB)).2.2
theorem o84_77 (hB : BytesOK) : okL 84 146 T84_77 = true := (okL_c (o84_76 hB)).2.2
theorem o84_78 (hB : BytesOK) : okL 84 147 T84_78 = true := (okL_c (o84_77 hB)).2.2
theorem o84_79 (hB : BytesOK) : okL 84 148 T84_79 = true := (okL_c (o84_78 hB)).2.2
theorem o84_80 (hB : BytesOK) : okL 84 151 T84_80 = true := (okL_c (o84_79 hB)).2.2
theorem o84_81 (hB : BytesOK) : okL 84 154 T84_81 = true := (okL_c (o84_80 hB)).2.2
theorem o84_82 (hB : BytesOK) : okL 84 155 T84_82 = true := (okL_c (o84_81 hB)).2.2
theorem o84_83 (hB : BytesOK) : okL 84 158 T84_83 = true := (okL_c (o84_82 hB)).2.2
theorem o84_84 (hB : BytesOK) : okL 84 159 T84_84 = true := (okL_c (o84_83 hB)).2.2
theorem o84_85 (hB : BytesOK) : okL 84 160 T84_85 = true := (okL_c (o84_84 hB)).2.2
theorem o84_86 (hB : BytesOK) : okL 84 162 T84_86 = true := (okL_c (o84_85 hB)).2.2
theorem o84_87 (hB : BytesOK) : okL 84 165 T84_87 = true := (okL_c (o84_86 hB)).2.2
theorem o84_88 (hB : BytesOK) : okL 84 166 T84_88 = true := (okL_c (o84_87 hB)).2.2
theorem o84_89 (hB : BytesOK) : okL 84 169 T84_89 = true := (okL_c (o84_88 hB)).2.2
theorem o84_90 (hB : BytesOK) : okL 84 170 T84_90 = true := (okL_c (o84_89 hB)).2.2
theorem o84_91 (hB : BytesOK) : okL 84 171 T84_91 = true := (okL_c (o84_90 hB)).2.2
theorem o84_92 (hB : BytesOK) : okL 84 173 T84_92 = true := (okL_c (o84_91 hB)).2.2
theorem o84_93 (hB : BytesOK) : okL 84 176 T84_93 = true := (okL_c (o84_92 hB)).2.2
theorem o84_94 (hB : BytesOK) : okL 84 177 T84_94 = true := (okL_c (o84_93 hB)).2.2
theorem o84_95 (hB : BytesOK) : okL 84 180 T84_95 = true := (okL_c (o84_94 hB)).2.2
theorem o84_96 (hB : BytesOK) : okL 84 183 T84_96 = true := (okL_c (o84_95 hB)).2.2
theorem o84_97 (hB : BytesOK) : okL 84 186 T84_97 = true := (okL_c (o84_96 hB)).2.2
theorem o84_98 (hB : BytesOK) : okL 84 187 T84_98 = true := (okL_c (o84_97 hB)).2.2
theorem o84_99 (hB : BytesOK) : okL 84 188 T84_99 = true := (okL_c (o84_98 hB)).2.2
theorem o84_100 (hB : BytesOK) : okL 84 191 T84_100 = true := (okL_c (o84_99 hB)).2.2
theorem o84_101 (hB : BytesOK) : okL 84 193 T84_101 = true := (okL_c (o84_100 hB)).2.2
theorem o84_102 (hB : BytesOK) : okL 84 194 T84_102 = true := (okL_c (o84_101 hB)).2.2
theorem o84_103 (hB : BytesOK) : okL 84 195 T84_103 = true := (okL_c (o84_102 hB)).2.2
theorem o84_104 (hB : BytesOK) : okL 84 198 T84_104 = true := (okL_c (o84_103 hB)).2.2
theorem o84_105 (hB : BytesOK) : okL 84 199 T84_105 = true := (okL_c (o84_104 hB)).2.2
theorem o84_106 (hB : BytesOK) : okL 84 200 T84_106 = true := (okL_c (o84_105 hB)).2.2
theorem o84_107 (hB : BytesOK) : okL 84 201 T84_107 = true := (okL_c (o84_106 hB)).2.2
theorem o84_108 (hB : BytesOK) : okL 84 203 T84_108 = true := (okL_c (o84_107 hB)).2.2
theorem o84_109 (hB : BytesOK) : okL 84 204 T84_109 = true := (okL_c (o84_108 hB)).2.2
theorem o84_110 (hB : BytesOK) : okL 84 207 T84_110 = true := (okL_c (o84_109 hB)).2.2
theorem o84_111 (hB : BytesOK) : okL 84 210 T84_111 = true := (okL_c (o84_110 hB)).2.2
theorem o84_112 (hB : BytesOK) : okL 84 213 T84_112 = true := (okL_c (o84_111 hB)).2.2
theorem o84_113 (hB : BytesOK) : okL 84 214 T84_113 = true := (okL_c (o84_112 hB)).2.2
theorem o84_114 (hB : BytesOK) : okL 84 215 T84_114 = true := (okL_c (o84_113 hB)).2.2
theorem o84_115 (hB : BytesOK) : okL 84 218 T84_115 = true := (okL_c (o84_114 hB)).2.2
theorem o84_116 (hB : BytesOK) : okL 84 221 T84_116 = true := (okL_c (o84_115 hB)).2.2
theorem o84_117 (hB : BytesOK) : okL 84 222 T84_117 = true := (okL_c (o84_116 hB)).2.2
theorem o84_118 (hB : BytesOK) : okL 84 223 T84_118 = true := (okL_c (o84_117 hB)).2.2
theorem o84_119 (hB : BytesOK) : okL 84 226 T84_119 = true := (okL_c (o84_118 hB)).2.2
theorem ml84 : mml 84 = 2 := by decide +kernel
theorem mr84 : mret 84 = none := by decide +kernel
theorem mg84 : kGood 84 = true := by decide +kernel

def T85_41 : List Tok := []
def T85_40 : List Tok := (.ireturn, 1, 0, 0) :: T85_41
def T85_39 : List Tok := (.iconst 1, 1, 0, 0) :: T85_40
def T85_38 : List Tok := (.goto (-32), 3, 0, 0) :: T85_39
def T85_37 : List Tok := (.iinc 2 1, 3, 0, 0) :: T85_38
def T85_36 : List Tok := (.ireturn, 1, 0, 0) :: T85_37
def T85_35 : List Tok := (.iconst 0, 1, 0, 0) :: T85_36
def T85_34 : List Tok := (.if_icmp .eq 5, 3, 0, 0) :: T85_35
def T85_33 : List Tok := (.invokevirtual 61, 3, 303, 713) :: T85_34
def T85_32 : List Tok := (.iload_n 2, 1, 0, 0) :: T85_33
def T85_31 : List Tok := (.aload_n 1, 1, 0, 0) :: T85_32
def T85_30 : List Tok := (.iaload, 1, 0, 0) :: T85_31
def T85_29 : List Tok := (.iadd, 1, 0, 0) :: T85_30
def T85_28 : List Tok := (.iload_n 2, 1, 0, 0) :: T85_29
def T85_27 : List Tok := (.getfield 50, 3, 452, 414) :: T85_28
def T85_26 : List Tok := (.aload_n 0, 1, 0, 0) :: T85_27
def T85_25 : List Tok := (.getfield 9, 3, 449, 410) :: T85_26
def T85_24 : List Tok := (.aload_n 0, 1, 0, 0) :: T85_25
def T85_23 : List Tok := (.if_icmp .ge 30, 3, 0, 0) :: T85_24
def T85_22 : List Tok := (.invokevirtual 56, 3, 302, 703) :: T85_23
def T85_21 : List Tok := (.aload_n 1, 1, 0, 0) :: T85_22
def T85_20 : List Tok := (.iload_n 2, 1, 0, 0) :: T85_21
def T85_19 : List Tok := (.istore_n 2, 1, 0, 0) :: T85_20
def T85_18 : List Tok := (.iconst 0, 1, 0, 0) :: T85_19
def T85_17 : List Tok := (.ireturn, 1, 0, 0) :: T85_18
def T85_16 : List Tok := (.iconst 0, 1, 0, 0) :: T85_17
def T85_15 : List Tok := (.if_icmp .le 5, 3, 0, 0) :: T85_16
def T85_14 : List Tok := (.getfield 22, 3, 448, 408) :: T85_15
def T85_13 : List Tok := (.aload_n 0, 1, 0, 0) :: T85_14
def T85_12 : List Tok := (.getfield 34, 3, 453, 415) :: T85_13
def T85_11 : List Tok := (.aload_n 0, 1, 0, 0) :: T85_12
def T85_10 : List Tok := (.if_icmp .ne 14, 3, 0, 0) :: T85_11
def T85_9 : List Tok := (.invokevirtual 56, 3, 302, 703) :: T85_10
def T85_8 : List Tok := (.aload_n 1, 1, 0, 0) :: T85_9
def T85_7 : List Tok := (.isub, 1, 0, 0) :: T85_8
def T85_6 : List Tok := (.getfield 50, 3, 452, 414) :: T85_7
def T85_5 : List Tok := (.aload_n 0, 1, 0, 0) :: T85_6
def T85_4 : List Tok := (.getfield 34, 3, 453, 415) :: T85_5
def T85_3 : List Tok := (.aload_n 0, 1, 0, 0) :: T85_4
def T85_2 : List Tok := (.ifCond .ne 30, 3, 0, 0) :: T85_3
def T85_1 : List Tok := (.getfield 40, 3, 451, 413) :: T85_2
def T85_0 : List Tok := (.aload_n 0, 1, 0, 0) :: T85_1
theorem o85_0 (hB : BytesOK) : okL 85 0 T85_0 = true := by
  have h := hB.1 85
  rw [show tk 85 = T85_0 from by decide +kernel] at h
  exact h
theorem o85_1 (hB : BytesOK) : okL 85 1 T85_1 = true := (okL_c (o85_0 hB)).2.2
theorem o85_2 (hB : BytesOK) : okL 85 4 T85_2 = true := (okL_c (o85_1 hB)).2.2
theorem o85_3 (hB : BytesOK) : okL 85 7 T85_3 = true := (okL_c (o85_2 hB)).2.2
theorem o85_4 (hB : BytesOK) : okL 85 8 T85_4 = true := (okL_c (o85_3 hB)).2.2
theorem o85_5 (hB : BytesOK) : okL 85 11 T85_5 = true := (okL_c (o85_4 hB)).2.2
theorem o85_6 (hB : BytesOK) : okL 85 12 T85_6 = true := (okL_c (o85_5 hB)).2.2
theorem o85_7 (hB : BytesOK) : okL 85 15 T85_7 = true := (okL_c (o85_6 hB)).2.2
theorem o85_8 (hB : BytesOK) : okL 85 16 T85_8 = true := (okL_c (o85_7 hB)).2.2
theorem o85_9 (hB : BytesOK) : okL 85 17 T85_9 = true := (okL_c (o85_8 hB)).2.2
theorem o85_10 (hB : BytesOK) : okL 85 20 T85_10 = true := (okL_c (o85_9 hB)).2.2
theorem o85_11 (hB : BytesOK) : okL 85 23 T85_11 = true := (okL_c (o85_10 hB)).2.2
theorem o85_12 (hB : BytesOK) : okL 85 24 T85_12 = true := (okL_c (o85_11 hB)).2.2
theorem o85_13 (hB : BytesOK) : okL 85 27 T85_13 = true := (okL_c (o85_12 hB)).2.2
theorem o85_14 (hB : BytesOK) : okL 85 28 T85_14 = true := (okL_c (o85_13 hB)).2.2
theorem o85_15 (hB : BytesOK) : okL 85 31 T85_15 = true := (okL_c (o85_14 hB)).2.2
theorem o85_16 (hB : BytesOK) : okL 85 34 T85_16 = true := (okL_c (o85_15 hB)).2.2
theorem o85_17 (hB : BytesOK) : okL 85 35 T85_17 = true := (okL_c (o85_16 hB)).2.2
theorem o85_18 (hB : BytesOK) : okL 85 36 T85_18 = true := (okL_c (o85_17 hB)).2.2
theorem o85_19 (hB : BytesOK) : okL 85 37 T85_19 = true := (okL_c (o85_18 hB)).2.2
theorem o85_20 (hB : BytesOK) : okL 85 38 T85_20 = true := (okL_c (o85_19 hB)).2.2
theorem o85_21 (hB : BytesOK) : okL 85 39 T85_21 = true := (okL_c (o85_20 hB)).2.2
theorem o85_22 (hB : BytesOK) : okL 85 40 T85_22 = true := (okL_c (o85_21 hB)).2.2
theorem o85_23 (hB : BytesOK) : okL 85 43 T85_23 = true := (okL_c (o85_22 hB)).2.2
theorem o85_24 (hB : BytesOK) : okL 85 46 T85_24 = true := (okL_c (o85_23 hB)).2.2
theorem o85_25 (hB : BytesOK) : okL 85 47 T85_25 = true := (okL_c (o85_24 hB)).2.2
theorem o85_26 (hB : BytesOK) : okL 85 50 T85_26 = true := (okL_c (o85_25 hB)).2.2
theorem o85_27 (hB : BytesOK) : okL 85 51 T85_27 = true := (okL_c (o85_26 hB)).2.2
theorem o85_28 (hB : BytesOK) : okL 85 54 T85_28 = true := (okL_c (o85_27 hB)).2.2
theorem o85_29 (hB : BytesOK) : okL 85 55 T85_29 = true := (okL_c (o85_28 hB)).2.2
theorem o85_30 (hB : BytesOK) : okL 85 56 T85_30 = true := (okL_c (o85_29 hB)).2.2
theorem o85_31 (hB : BytesOK) : okL 85 57 T85_31 = true := (okL_c (o85_30 hB)).2.2
theorem o85_32 (hB : BytesOK) : okL 85 58 T85_32 = true := (okL_c (o85_31 hB)).2.2
theorem o85_33 (hB : BytesOK) : okL 85 59 T85_33 = true := (okL_c (o85_32 hB)).2.2
theorem o85_34 (hB : BytesOK) : okL 85 62 T85_34 = true := (okL_c (o85_33 hB)).2.2
theorem o85_35 (hB : BytesOK) : okL 85 65 T85_35 = true := (okL_c (o85_34 hB)).2.2
theorem o85_36 (hB : BytesOK) : okL 85 66 T85_36 = true := (okL_c (o85_35 hB)).2.2
theorem o85_37 (hB : BytesOK) : okL 85 67 T85_37 = true := (okL_c (o85_36 hB)).2.2
theorem o85_38 (hB : BytesOK) : okL 85 70 T85_38 = true := (okL_c (o85_37 hB)).2.2
theorem o85_39 (hB : BytesOK) : okL 85 73 T85_39 = true := (okL_c (o85_38 hB)).2.2
theorem o85_40 (hB : BytesOK) : okL 85 74 T85_40 = true := (okL_c (o85_39 hB)).2.2
theorem ml85 : mml 85 = 3 := by decide +kernel
theorem mr85 : mret 85 = some .boolean := by decide +kernel
theorem mg85 : kGood 85 = true := by decide +kernel

def T86_20 : List Tok := []
def T86_19 : List Tok := (.ireturn, 1, 0, 0) :: T86_20
def T86_18 : List Tok := (.iconst 0, 1, 0, 0) :: T86_19
def T86_17 : List Tok := (.goto 4, 3, 0, 0) :: T86_18
def T86_16 : List Tok := (.iconst 1, 1, 0, 0) :: T86_17
def T86_15 : List Tok := (.if_icmp .ne 7, 3, 0, 0) :: T86_16
def T86_14 : List Tok := (.iload_n 1, 1, 0, 0) :: T86_15
def T86_13 : List Tok := (.iaload, 1, 0, 0) :: T86_14
def T86_12 : List Tok := (.getfield 50, 3, 452, 414) :: T86_13
def T86_11 : List Tok := (.aload_n 0, 1, 0, 0) :: T86_12
def T86_10 : List Tok := (.getfield 9, 3, 449, 410) :: T86_11
def T86_9 : List Tok := (.aload_n 0, 1, 0, 0) :: T86_10
def T86_8 : List Tok := (.if_icmp .ge 20, 3, 0, 0) :: T86_9
def T86_7 : List Tok := (.getfield 22, 3, 448, 408) :: T86_8
def T86_6 : List Tok := (.aload_n 0, 1, 0, 0) :: T86_7
def T86_5 : List Tok := (.getfield 50, 3, 452, 414) :: T86_6
def T86_4 : List Tok := (.aload_n 0, 1, 0, 0) :: T86_5
def T86_3 : List Tok := (.if_icmp .ne 31, 3, 0, 0) :: T86_4
def T86_2 : List Tok := (.iconst 2, 1, 0, 0) :: T86_3
def T86_1 : List Tok := (.getfield 40, 3, 451, 413) :: T86_2
def T86_0 : List Tok := (.aload_n 0, 1, 0, 0) :: T86_1
theorem o86_0 (hB : BytesOK) : okL 86 0 T86_0 = true := by
  have h := hB.1 86
  rw [show tk 86 = T86_0 from by decide +kernel] at h
  exact h
theorem o86_1 (hB : BytesOK) : okL 86 1 T86_1 = true := (okL_c (o86_0 hB)).2.2
theorem o86_2 (hB : BytesOK) : okL 86 4 T86_2 = true := (okL_c (o86_1 hB)).2.2
theorem o86_3 (hB : BytesOK) : okL 86 5 T86_3 = true := (okL_c (o86_2 hB)).2.2
theorem o86_4 (hB : BytesOK) : okL 86 8 T86_4 = true := (okL_c (o86_3 hB)).2.2
theorem o86_5 (hB : BytesOK) : okL 86 9 T86_5 = true := (okL_c (o86_4 hB)).2.2
theorem o86_6 (hB : BytesOK) : okL 86 12 T86_6 = true := (okL_c (o86_5 hB)).2.2
theorem o86_7 (hB : BytesOK) : okL 86 13 T86_7 = true := (okL_c (o86_6 hB)).2.2
theorem o86_8 (hB : BytesOK) : okL 86 16 T86_8 = true := (okL_c (o86_7 hB)).2.2
theorem o86_9 (hB : BytesOK) : okL 86 19 T86_9 = true := (okL_c (o86_8 hB)).2.2
theorem o86_10 (hB : BytesOK) : okL 86 20 T86_10 = true := (okL_c (o86_9 hB)).2.2
theorem o86_11 (hB : BytesOK) : okL 86 23 T86_11 = true := (okL_c (o86_10 hB)).2.2
theorem o86_12 (hB : BytesOK) : okL 86 24 T86_12 = true := (okL_c (o86_11 hB)).2.2
theorem o86_13 (hB : BytesOK) : okL 86 27 T86_13 = true := (okL_c (o86_12 hB)).2.2
theorem o86_14 (hB : BytesOK) : okL 86 28 T86_14 = true := (okL_c (o86_13 hB)).2.2
theorem o86_15 (hB : BytesOK) : okL 86 29 T86_15 = true := (okL_c (o86_14 hB)).2.2
theorem o86_16 (hB : BytesOK) : okL 86 32 T86_16 = true := (okL_c (o86_15 hB)).2.2
theorem o86_17 (hB : BytesOK) : okL 86 33 T86_17 = true := (okL_c (o86_16 hB)).2.2
theorem o86_18 (hB : BytesOK) : okL 86 36 T86_18 = true := (okL_c (o86_17 hB)).2.2
theorem o86_19 (hB : BytesOK) : okL 86 37 T86_19 = true := (okL_c (o86_18 hB)).2.2
theorem ml86 : mml 86 = 2 := by decide +kernel
theorem mr86 : mret 86 = some .boolean := by decide +kernel
theorem mg86 : kGood 86 = true := by decide +kernel

def T87_11 : List Tok := []
def T87_10 : List Tok := (.ireturn, 1, 0, 0) :: T87_11
def T87_9 : List Tok := (.iconst 1, 1, 0, 0) :: T87_10
def T87_8 : List Tok := (.invokevirtual 37, 3, 84, 682) :: T87_9
def T87_7 : List Tok := (.aload_n 0, 1, 0, 0) :: T87_8
def T87_6 : List Tok := (.ireturn, 1, 0, 0) :: T87_7
def T87_5 : List Tok := (.invokevirtual 43, 3, 83, 686) :: T87_6
def T87_4 : List Tok := (.aload_n 0, 1, 0, 0) :: T87_5
def T87_3 : List Tok := (.ifCond .ne 8, 3, 0, 0) :: T87_4
def T87_2 : List Tok := (.invokevirtual 65, 3, 85, 699) :: T87_3
def T87_1 : List Tok := (.aload_n 1, 1, 0, 0) :: T87_2
def T87_0 : List Tok := (.aload_n 0, 1, 0, 0) :: T87_1
theorem o87_0 (hB : BytesOK) : okL 87 0 T87_0 = true := by
  have h := hB.1 87
  rw [show tk 87 = T87_0 from by decide +kernel] at h
  exact h
theorem o87_1 (hB : BytesOK) : okL 87 1 T87_1 = true := (okL_c (o87_0 hB)).2.2
theorem o87_2 (hB : BytesOK) : okL 87 2 T87_2 = true := (okL_c (o87_1 hB)).2.2
theorem o87_3 (hB : BytesOK) : okL 87 5 T87_3 = true := (okL_c (o87_2 hB)).2.2
theorem o87_4 (hB : BytesOK) : okL 87 8 T87_4 = true := (okL_c (o87_3 hB)).2.2
theorem o87_5 (hB : BytesOK) : okL 87 9 T87_5 = true := (okL_c (o87_4 hB)).2.2
theorem o87_6 (hB : BytesOK) : okL 87 12 T87_6 = true := (okL_c (o87_5 hB)).2.2
theorem o87_7 (hB : BytesOK) : okL 87 13 T87_7 = true := (okL_c (o87_6 hB)).2.2
theorem o87_8 (hB : BytesOK) : okL 87 14 T87_8 = true := (okL_c (o87_7 hB)).2.2
theorem o87_9 (hB : BytesOK) : okL 87 17 T87_9 = true := (okL_c (o87_8 hB)).2.2
theorem o87_10 (hB : BytesOK) : okL 87 18 T87_10 = true := (okL_c (o87_9 hB)).2.2
theorem ml87 : mml 87 = 2 := by decide +kernel
theorem mr87 : mret 87 = some .boolean := by decide +kernel
theorem mg87 : kGood 87 = true := by decide +kernel

def T88_31 : List Tok := []
def T88_30 : List Tok := (.ireturn, 1, 0, 0) :: T88_31
def T88_29 : List Tok := (.iload_n 3, 1, 0, 0) :: T88_30
def T88_28 : List Tok := (.invokevirtual 37, 3, 84, 682) :: T88_29
def T88_27 : List Tok := (.aload_n 0, 1, 0, 0) :: T88_28
def T88_26 : List Tok := (.istore_n 3, 1, 0, 0) :: T88_27
def T88_25 : List Tok := (.getfield 53, 3, 454, 416) :: T88_26
def T88_24 : List Tok := (.aload_n 0, 1, 0, 0) :: T88_25
def T88_23 : List Tok := (.ireturn, 1, 0, 0) :: T88_24
def T88_22 : List Tok := (.iconst (-1), 1, 0, 0) :: T88_23
def T88_21 : List Tok := (.pop, 1, 0, 0) :: T88_22
def T88_20 : List Tok := (.invokevirtual 43, 3, 83, 686) :: T88_21
def T88_19 : List Tok := (.aload_n 0, 1, 0, 0) :: T88_20
def T88_18 : List Tok := (.if_icmp .le 10, 3, 0, 0) :: T88_19
def T88_17 : List Tok := (.iload_n 2, 1, 0, 0) :: T88_18
def T88_16 : List Tok := (.getfield 53, 3, 454, 416) :: T88_17
def T88_15 : List Tok := (.aload_n 0, 1, 0, 0) :: T88_16
def T88_14 : List Tok := (.if_icmp .lt 11, 3, 0, 0) :: T88_15
def T88_13 : List Tok := (.iload_n 1, 1, 0, 0) :: T88_14
def T88_12 : List Tok := (.getfield 53, 3, 454, 416) :: T88_13
def T88_11 : List Tok := (.aload_n 0, 1, 0, 0) :: T88_12
def T88_10 : List Tok := (.if_icmp .gt 19, 3, 0, 0) :: T88_11
def T88_9 : List Tok := (.iconst 3, 1, 0, 0) :: T88_10
def T88_8 : List Tok := (.isub, 1, 0, 0) :: T88_9
def T88_7 : List Tok := (.getfield 50, 3, 452, 414) :: T88_8
def T88_6 : List Tok := (.aload_n 0, 1, 0, 0) :: T88_7
def T88_5 : List Tok := (.getfield 34, 3, 453, 415) :: T88_6
def T88_4 : List Tok := (.aload_n 0, 1, 0, 0) :: T88_5
def T88_3 : List Tok := (.if_icmp .ne 32, 3, 0, 0) :: T88_4
def T88_2 : List Tok := (.iconst 1, 1, 0, 0) :: T88_3
def T88_1 : List Tok := (.getfield 40, 3, 451, 413) :: T88_2
def T88_0 : List Tok := (.aload_n 0, 1, 0, 0) :: T88_1
theorem o88_0 (hB : BytesOK) : okL 88 0 T88_0 = true := by
  have h := hB.1 88
  rw [show tk 88 = T88_0 from by decide +kernel] at h
  exact h
theorem o88_1 (hB : BytesOK) : okL 88 1 T88_1 = true := (okL_c (o88_0 hB)).2.2
theorem o88_2 (hB : BytesOK) : okL 88 4 T88_2 = true := (okL_c (o88_1 hB)).2.2
theorem o88_3 (hB : BytesOK) : okL 88 5 T88_3 = true := (okL_c (o88_2 hB)).2.2
theorem o88_4 (hB : BytesOK) : okL 88 8 T88_4 = true := (okL_c (o88_3 hB)).2.2
theorem o88_5 (hB : BytesOK) : okL 88 9 T88_5 = true := (okL_c (o88_4 hB)).2.2
theorem o88_6 (hB : BytesOK) : okL 88 12 T88_6 = true := (okL_c (o88_5 hB)).2.2
theorem o88_7 (hB : BytesOK) : okL 88 13 T88_7 = true := (okL_c (o88_6 hB)).2.2
theorem o88_8 (hB : BytesOK) : okL 88 16 T88_8 = true := (okL_c (o88_7 hB)).2.2
theorem o88_9 (hB : BytesOK) : okL 88 17 T88_9 = true := (okL_c (o88_8 hB)).2.2
theorem o88_10 (hB : BytesOK) : okL 88 18 T88_10 = true := (okL_c (o88_9 hB)).2.2
theorem o88_11 (hB : BytesOK) : okL 88 21 T88_11 = true := (okL_c (o88_10 hB)).2.2
theorem o88_12 (hB : BytesOK) : okL 88 22 T88_12 = true := (okL_c (o88_11 hB)).2.2
theorem o88_13 (hB : BytesOK) : okL 88 25 T88_13 = true := (okL_c (o88_12 hB)).2.2
theorem o88_14 (hB : BytesOK) : okL 88 26 T88_14 = true := (okL_c (o88_13 hB)).2.2
theorem o88_15 (hB : BytesOK) : okL 88 29 T88_15 = true := (okL_c (o88_14 hB)).2.2
theorem o88_16 (hB : BytesOK) : okL 88 30 T88_16 = true := (okL_c (o88_15 hB)).2.2
theorem o88_17 (hB : BytesOK) : okL 88 33 T88_17 = true := (okL_c (o88_16 hB)).2.2
theorem o88_18 (hB : BytesOK) : okL 88 34 T88_18 = true := (okL_c (o88_17 hB)).2.2
theorem o88_19 (hB : BytesOK) : okL 88 37 T88_19 = true := (okL_c (o88_18 hB)).2.2
theorem o88_20 (hB : BytesOK) : okL 88 38 T88_20 = true := (okL_c (o88_19 hB)).2.2
theorem o88_21 (hB : BytesOK) : okL 88 41 T88_21 = true := (okL_c (o88_20 hB)).2.2
theorem o88_22 (hB : BytesOK) : okL 88 42 T88_22 = true := (okL_c (o88_21 hB)).2.2
theorem o88_23 (hB : BytesOK) : okL 88 43 T88_23 = true := (okL_c (o88_22 hB)).2.2
theorem o88_24 (hB : BytesOK) : okL 88 44 T88_24 = true := (okL_c (o88_23 hB)).2.2
theorem o88_25 (hB : BytesOK) : okL 88 45 T88_25 = true := (okL_c (o88_24 hB)).2.2
theorem o88_26 (hB : BytesOK) : okL 88 48 T88_26 = true := (okL_c (o88_25 hB)).2.2
theorem o88_27 (hB : BytesOK) : okL 88 49 T88_27 = true := (okL_c (o88_26 hB)).2.2
theorem o88_28 (hB : BytesOK) : okL 88 50 T88_28 = true := (okL_c (o88_27 hB)).2.2
theorem o88_29 (hB : BytesOK) : okL 88 53 T88_29 = true := (okL_c (o88_28 hB)).2.2
theorem o88_30 (hB : BytesOK) : okL 88 54 T88_30 = true := (okL_c (o88_29 hB)).2.2
theorem ml88 : mml 88 = 4 := by decide +kernel
theorem mr88 : mret 88 = some .int := by decide +kernel
theorem mg88 : kGood 88 = true := by decide +kernel

def T89_38 : List Tok := []
def T89_37 : List Tok := (.ireturn, 1, 0, 0) :: T89_38
def T89_36 : List Tok := (.iconst (-1), 1, 0, 0) :: T89_37
def T89_35 : List Tok := (.goto 4, 3, 0, 0) :: T89_36
def T89_34 : List Tok := (.iconst 5, 1, 0, 0) :: T89_35
def T89_33 : List Tok := (.ifCond .eq 7, 3, 0, 0) :: T89_34
def T89_32 : List Tok := (.invokevirtual 65, 3, 85, 699) :: T89_33
def T89_31 : List Tok := (.ldc 79, 2, 1005, 755) :: T89_32
def T89_30 : List Tok := (.aload_n 0, 1, 0, 0) :: T89_31
def T89_29 : List Tok := (.ireturn, 1, 0, 0) :: T89_30
def T89_28 : List Tok := (.iconst 4, 1, 0, 0) :: T89_29
def T89_27 : List Tok := (.ifCond .eq 5, 3, 0, 0) :: T89_28
def T89_26 : List Tok := (.invokevirtual 65, 3, 85, 699) :: T89_27
def T89_25 : List Tok := (.ldc 77, 2, 1004, 754) :: T89_26
def T89_24 : List Tok := (.aload_n 0, 1, 0, 0) :: T89_25
def T89_23 : List Tok := (.ireturn, 1, 0, 0) :: T89_24
def T89_22 : List Tok := (.iconst 3, 1, 0, 0) :: T89_23
def T89_21 : List Tok := (.ifCond .eq 5, 3, 0, 0) :: T89_22
def T89_20 : List Tok := (.invokevirtual 65, 3, 85, 699) :: T89_21
def T89_19 : List Tok := (.ldc 75, 2, 1003, 753) :: T89_20
def T89_18 : List Tok := (.aload_n 0, 1, 0, 0) :: T89_19
def T89_17 : List Tok := (.ireturn, 1, 0, 0) :: T89_18
def T89_16 : List Tok := (.iconst 2, 1, 0, 0) :: T89_17
def T89_15 : List Tok := (.ifCond .eq 5, 3, 0, 0) :: T89_16
def T89_14 : List Tok := (.invokevirtual 65, 3, 85, 699) :: T89_15
def T89_13 : List Tok := (.ldc 73, 2, 1002, 752) :: T89_14
def T89_12 : List Tok := (.aload_n 0, 1, 0, 0) :: T89_13
def T89_11 : List Tok := (.ireturn, 1, 0, 0) :: T89_12
def T89_10 : List Tok := (.iconst 1, 1, 0, 0) :: T89_11
def T89_9 : List Tok := (.ifCond .eq 5, 3, 0, 0) :: T89_10
def T89_8 : List Tok := (.invokevirtual 65, 3, 85, 699) :: T89_9
def T89_7 : List Tok := (.ldc 71, 2, 1001, 751) :: T89_8
def T89_6 : List Tok := (.aload_n 0, 1, 0, 0) :: T89_7
def T89_5 : List Tok := (.ireturn, 1, 0, 0) :: T89_6
def T89_4 : List Tok := (.iconst 0, 1, 0, 0) :: T89_5
def T89_3 : List Tok := (.ifCond .eq 5, 3, 0, 0) :: T89_4
def T89_2 : List Tok := (.invokevirtual 65, 3, 85, 699) :: T89_3
def T89_1 : List Tok := (.ldc 69, 2, 1000, 698) :: T89_2
def T89_0 : List Tok := (.aload_n 0, 1, 0, 0) :: T89_1
theorem o89_0 (hB : BytesOK) : okL 89 0 T89_0 = true := by
  have h := hB.1 89
  rw [show tk 89 = T89_0 from by decide +kernel] at h
  exact h
theorem o89_1 (hB : BytesOK) : okL 89 1 T89_1 = true := (okL_c (o89_0 hB)).2.2
theorem o89_2 (hB : BytesOK) : okL 89 3 T89_2 = true := (okL_c (o89_1 hB)).2.2
theorem o89_3 (hB : BytesOK) : okL 89 6 T89_3 = true := (okL_c (o89_2 hB)).2.2
theorem o89_4 (hB : BytesOK) : okL 89 9 T89_4 = true := (okL_c (o89_3 hB)).2.2
theorem o89_5 (hB : BytesOK) : okL 89 10 T89_5 = true := (okL_c (o89_4 hB)).2.2
theorem o89_6 (hB : BytesOK) : okL 89 11 T89_6 = true := (okL_c (o89_5 hB)).2.2
theorem o89_7 (hB : BytesOK) : okL 89 12 T89_7 = true := (okL_c (o89_6 hB)).2.2
theorem o89_8 (hB : BytesOK) : okL 89 14 T89_8 = true := (okL_c (o89_7 hB)).2.2
theorem o89_9 (hB : BytesOK) : okL 89 17 T89_9 = true := (okL_c (o89_8 hB)).2.2
theorem o89_10 (hB : BytesOK) : okL 89 20 T89_10 = true := (okL_c (o89_9 hB)).2.2
theorem o89_11 (hB : BytesOK) : okL 89 21 T89_11 = true := (okL_c (o89_10 hB)).2.2
theorem o89_12 (hB : BytesOK) : okL 89 22 T89_12 = true := (okL_c (o89_11 hB)).2.2
theorem o89_13 (hB : BytesOK) : okL 89 23 T89_13 = true := (okL_c (o89_12 hB)).2.2
theorem o89_14 (hB : BytesOK) : okL 89 25 T89_14 = true := (okL_c (o89_13 hB)).2.2
theorem o89_15 (hB : BytesOK) : okL 89 28 T89_15 = true := (okL_c (o89_14 hB)).2.2
theorem o89_16 (hB : BytesOK) : okL 89 31 T89_16 = true := (okL_c (o89_15 hB)).2.2
theorem o89_17 (hB : BytesOK) : okL 89 32 T89_17 = true := (okL_c (o89_16 hB)).2.2
theorem o89_18 (hB : BytesOK) : okL 89 33 T89_18 = true := (okL_c (o89_17 hB)).2.2
theorem o89_19 (hB : BytesOK) : okL 89 34 T89_19 = true := (okL_c (o89_18 hB)).2.2
theorem o89_20 (hB : BytesOK) : okL 89 36 T89_20 = true := (okL_c (o89_19 hB)).2.2
theorem o89_21 (hB : BytesOK) : okL 89 39 T89_21 = true := (okL_c (o89_20 hB)).2.2
theorem o89_22 (hB : BytesOK) : okL 89 42 T89_22 = true := (okL_c (o89_21 hB)).2.2
theorem o89_23 (hB : BytesOK) : okL 89 43 T89_23 = true := (okL_c (o89_22 hB)).2.2
theorem o89_24 (hB : BytesOK) : okL 89 44 T89_24 = true := (okL_c (o89_23 hB)).2.2
theorem o89_25 (hB : BytesOK) : okL 89 45 T89_25 = true := (okL_c (o89_24 hB)).2.2
theorem o89_26 (hB : BytesOK) : okL 89 47 T89_26 = true := (okL_c (o89_25 hB)).2.2
theorem o89_27 (hB : BytesOK) : okL 89 50 T89_27 = true := (okL_c (o89_26 hB)).2.2
theorem o89_28 (hB : BytesOK) : okL 89 53 T89_28 = true := (okL_c (o89_27 hB)).2.2
theorem o89_29 (hB : BytesOK) : okL 89 54 T89_29 = true := (okL_c (o89_28 hB)).2.2
theorem o89_30 (hB : BytesOK) : okL 89 55 T89_30 = true := (okL_c (o89_29 hB)).2.2
theorem o89_31 (hB : BytesOK) : okL 89 56 T89_31 = true := (okL_c (o89_30 hB)).2.2
theorem o89_32 (hB : BytesOK) : okL 89 58 T89_32 = true := (okL_c (o89_31 hB)).2.2
theorem o89_33 (hB : BytesOK) : okL 89 61 T89_33 = true := (okL_c (o89_32 hB)).2.2
theorem o89_34 (hB : BytesOK) : okL 89 64 T89_34 = true := (okL_c (o89_33 hB)).2.2
theorem o89_35 (hB : BytesOK) : okL 89 65 T89_35 = true := (okL_c (o89_34 hB)).2.2
theorem o89_36 (hB : BytesOK) : okL 89 68 T89_36 = true := (okL_c (o89_35 hB)).2.2
theorem o89_37 (hB : BytesOK) : okL 89 69 T89_37 = true := (okL_c (o89_36 hB)).2.2
theorem ml89 : mml 89 = 1 := by decide +kernel
theorem mr89 : mret 89 = some .int := by decide +kernel
theorem mg89 : kGood 89 = true := by decide +kernel

def T90_89 : List Tok := []
def T90_88 : List Tok := (.return_, 1, 0, 0) :: T90_89
def T90_87 : List Tok := (.invokevirtual 121, 3, 99, 810) :: T90_88
def T90_86 : List Tok := (.iload_n 2, 1, 0, 0) :: T90_87
def T90_85 : List Tok := (.iload_n 1, 1, 0, 0) :: T90_86
def T90_84 : List Tok := (.getfield 18, 3, 450, 411) :: T90_85
def T90_83 : List Tok := (.aload_n 0, 1, 0, 0) :: T90_84
def T90_82 : List Tok := (.invokevirtual 37, 3, 84, 682) :: T90_83
def T90_81 : List Tok := (.aload_n 0, 1, 0, 0) :: T90_82
def T90_80 : List Tok := (.return_, 1, 0, 0) :: T90_81
def T90_79 : List Tok := (.pop, 1, 0, 0) :: T90_80
def T90_78 : List Tok := (.invokevirtual 43, 3, 83, 686) :: T90_79
def T90_77 : List Tok := (.aload_n 0, 1, 0, 0) :: T90_78
def T90_76 : List Tok := (.ifCond .ne 9, 3, 0, 0) :: T90_77
def T90_75 : List Tok := (.invokevirtual 117, 3, 86, 792) :: T90_76
def T90_74 : List Tok := (.bipush 59, 2, 0, 0) :: T90_75
def T90_73 : List Tok := (.aload_n 0, 1, 0, 0) :: T90_74
def T90_72 : List Tok := (.return_, 1, 0, 0) :: T90_73
def T90_71 : List Tok := (.ifCond .lt 4, 3, 0, 0) :: T90_72
def T90_70 : List Tok := (.getfield 31, 3, 455, 417) :: T90_71
def T90_69 : List Tok := (.aload_n 0, 1, 0, 0) :: T90_70
def T90_68 : List Tok := (.invokevirtual 113, 3, 100, 797) :: T90_69
def T90_67 : List Tok := (.bipush (-3), 2, 0, 0) :: T90_68
def T90_66 : List Tok := (.getfield 18, 3, 450, 411) :: T90_67
def T90_65 : List Tok := (.aload_n 0, 1, 0, 0) :: T90_66
def T90_64 : List Tok := (.ifCond .ne 12, 3, 0, 0) :: T90_65
def T90_63 : List Tok := (.iload_n 3, 1, 0, 0) :: T90_64
def T90_62 : List Tok := (.ifCond .eq 16, 3, 0, 0) :: T90_63
def T90_61 : List Tok := (.invokevirtual 109, 3, 94, 783) :: T90_62
def T90_60 : List Tok := (.iconst 0, 1, 0, 0) :: T90_61
def T90_59 : List Tok := (.aload_n 0, 1, 0, 0) :: T90_60
def T90_58 : List Tok := (.ifCond .eq 24, 3, 0, 0) :: T90_59
def T90_57 : List Tok := (.invokevirtual 106, 3, 87, 761) :: T90_58
def T90_56 : List Tok := (.ldc 104, 2, 1012, 782) :: T90_57
def T90_55 : List Tok := (.aload_n 0, 1, 0, 0) :: T90_56
def T90_54 : List Tok := (.istore_n 3, 1, 0, 0) :: T90_55
def T90_53 : List Tok := (.iconst 0, 1, 0, 0) :: T90_54
def T90_52 : List Tok := (.goto 4, 3, 0, 0) :: T90_53
def T90_51 : List Tok := (.iconst 1, 1, 0, 0) :: T90_52
def T90_50 : List Tok := (.ifCond .ne 7, 3, 0, 0) :: T90_51
def T90_49 : List Tok := (.getfield 101, 3, 523, 335) :: T90_50
def T90_48 : List Tok := (.getfield 18, 3, 450, 411) :: T90_49
def T90_47 : List Tok := (.aload_n 0, 1, 0, 0) :: T90_48
def T90_46 : List Tok := (.goto 49, 3, 0, 0) :: T90_47
def T90_45 : List Tok := (.putfield 99, 3, 522, 332) :: T90_46
def T90_44 : List Tok := (.iload_n 2, 1, 0, 0) :: T90_45
def T90_43 : List Tok := (.getfield 18, 3, 450, 411) :: T90_44
def T90_42 : List Tok := (.aload_n 0, 1, 0, 0) :: T90_43
def T90_41 : List Tok := (.istore_n 2, 1, 0, 0) :: T90_42
def T90_40 : List Tok := (.invokevirtual 90, 3, 88, 772) :: T90_41
def T90_39 : List Tok := (.sipush 999, 3, 0, 0) :: T90_40
def T90_38 : List Tok := (.iconst 0, 1, 0, 0) :: T90_39
def T90_37 : List Tok := (.aload_n 0, 1, 0, 0) :: T90_38
def T90_36 : List Tok := (.goto 69, 3, 0, 0) :: T90_37
def T90_35 : List Tok := (.istore_n 2, 1, 0, 0) :: T90_36
def T90_34 : List Tok := (.invokevirtual 96, 3, 93, 777) :: T90_35
def T90_33 : List Tok := (.aload_n 0, 1, 0, 0) :: T90_34
def T90_32 : List Tok := (.goto 77, 3, 0, 0) :: T90_33
def T90_31 : List Tok := (.putfield 94, 3, 520, 327) :: T90_32
def T90_30 : List Tok := (.iload_n 2, 1, 0, 0) :: T90_31
def T90_29 : List Tok := (.getfield 18, 3, 450, 411) :: T90_30
def T90_28 : List Tok := (.aload_n 0, 1, 0, 0) :: T90_29
def T90_27 : List Tok := (.istore_n 2, 1, 0, 0) :: T90_28
def T90_26 : List Tok := (.invokevirtual 90, 3, 88, 772) :: T90_27
def T90_25 : List Tok := (.sipush 999, 3, 0, 0) :: T90_26
def T90_24 : List Tok := (.iconst 0, 1, 0, 0) :: T90_25
def T90_23 : List Tok := (.aload_n 0, 1, 0, 0) :: T90_24
def T90_22 : List Tok := (.goto 97, 3, 0, 0) :: T90_23
def T90_21 : List Tok := (.istore_n 2, 1, 0, 0) :: T90_22
def T90_20 : List Tok := (.invokevirtual 87, 3, 92, 768) :: T90_21
def T90_19 : List Tok := (.aload_n 0, 1, 0, 0) :: T90_20
def T90_18 : List Tok := (.goto 105, 3, 0, 0) :: T90_19
def T90_17 : List Tok := (.istore_n 2, 1, 0, 0) :: T90_18
def T90_16 : List Tok := (.invokevirtual 84, 3, 91, 756) :: T90_17
def T90_15 : List Tok := (.aload_n 0, 1, 0, 0) :: T90_16
def T90_14 : List Tok := (.tableswitch 97 0 4 #[33, 41, 49, 69, 77], 33, 0, 0) :: T90_15
def T90_13 : List Tok := (.iload_n 1, 1, 0, 0) :: T90_14
def T90_12 : List Tok := (.istore_n 2, 1, 0, 0) :: T90_13
def T90_11 : List Tok := (.bipush (-9), 2, 0, 0) :: T90_12
def T90_10 : List Tok := (.invokevirtual 37, 3, 84, 682) :: T90_11
def T90_9 : List Tok := (.aload_n 0, 1, 0, 0) :: T90_10
def T90_8 : List Tok := (.return_, 1, 0, 0) :: T90_9
def T90_7 : List Tok := (.pop, 1, 0, 0) :: T90_8
def T90_6 : List Tok := (.invokevirtual 43, 3, 83, 686) :: T90_7
def T90_5 : List Tok := (.aload_n 0, 1, 0, 0) :: T90_6
def T90_4 : List Tok := (.ifCond .ge 9, 3, 0, 0) :: T90_5
def T90_3 : List Tok := (.iload_n 1, 1, 0, 0) :: T90_4
def T90_2 : List Tok := (.istore_n 1, 1, 0, 0) :: T90_3
def T90_1 : List Tok := (.invokevirtual 81, 3, 89, 694) :: T90_2
def T90_0 : List Tok := (.aload_n 0, 1, 0, 0) :: T90_1
theorem o90_0 (hB : BytesOK) : okL 90 0 T90_0 = true := by
  have h := hB.1 90
  rw [show tk 90 = T90_0 from by decide +kernel] at h
  exact h
theorem o90_1 (hB : BytesOK) : okL 90 1 T90_1 = true := (okL_c (o90_0 hB)).2.2
theorem o90_2 (hB : BytesOK) : okL 90 4 T90_2 = true := (okL_c (o90_1 hB)).2.2
theorem o90_3 (hB : BytesOK) : okL 90 5 T90_3 = true := (okL_c (o90_2 hB)).2.2
theorem o90_4 (hB : BytesOK) : okL 90 6 T90_4 = true := (okL_c (o90_3 hB)).2.2
theorem o90_5 (hB : BytesOK) : okL 90 9 T90_5 = true := (okL_c (o90_4 hB)).2.2
theorem o90_6 (hB : BytesOK) : okL 90 10 T90_6 = true := (okL_c (o90_5 hB)).2.2
theorem o90_7 (hB : BytesOK) : okL 90 13 T90_7 = true := (okL_c (o90_6 hB)).2.2
theorem o90_8 (hB : BytesOK) : okL 90 14 T90_8 = true := (okL_c (o90_7 hB)).2.2
theorem o90_9 (hB : BytesOK) : okL 90 15 T90_9 = true := (okL_c (o90_8 hB)).2.2
theorem o90_10 (hB : BytesOK) : okL 90 16 T90_10 = true := (okL_c (o90_9 hB)).2.2
theorem o90_11 (hB : BytesOK) : okL 90 19 T90_11 = true := (okL_c (o90_10 hB)).2.2
theorem o90_12 (hB : BytesOK) : okL 90 21 T90_12 = true := (okL_c (o90_11 hB)).2.2
theorem o90_13 (hB : BytesOK) : okL 90 22 T90_13 = true := (okL_c (o90_12 hB)).2.2
theorem o90_14 (hB : BytesOK) : okL 90 23 T90_14 = true := (okL_c (o90_13 hB)).2.2
theorem o90_15 (hB : BytesOK) : okL 90 56 T90_15 = true := (okL_c (o90_14 hB)).2.2
theorem o90_16 (hB : BytesOK) : okL 90 57 T90_16 = true := (okL_c (o90_15 hB)).2.2
theorem o90_17 (hB : BytesOK) : okL 90 60 T90_17 = true := (okL_c (o90_16 hB)).2.2
theorem o90_18 (hB : BytesOK) : okL 90 61 T90_18 = true := (okL_c (o90_17 hB)).2.2
theorem o90_19 (hB : BytesOK) : okL 90 64 T90_19 = true := (okL_c (o90_18 hB)).2.2
theorem o90_20 (hB : BytesOK) : okL 90 65 T90_20 = true := (okL_c (o90_19 hB)).2.2
theorem o90_21 (hB : BytesOK) : okL 90 68 T90_21 = true := (okL_c (o90_20 hB)).2.2
theorem o90_22 (hB : BytesOK) : okL 90 69 T90_22 = true := (okL_c (o90_21 hB)).2.2
theorem o90_23 (hB : BytesOK) : okL 90 72 T90_23 = true := (okL_c (o90_22 hB)).2.2
theorem o90_24 (hB : BytesOK) : okL 90 73 T90_24 = true := (okL_c (o90_23 hB)).2.2
theorem o90_25 (hB : BytesOK) : okL 90 74 T90_25 = true := (okL_c (o90_24 hB)).2.2
theorem o90_26 (hB : BytesOK) : okL 90 77 T90_26 = true := (okL_c (o90_25 hB)).2.2
theorem o90_27 (hB : BytesOK) : okL 90 80 T90_27 = true := (okL_c (o90_26 hB)).2.2
theorem o90_28 (hB : BytesOK) : okL 90 81 T90_28 = true := (okL_c (o90_27 hB)).2.2
theorem o90_29 (hB : BytesOK) : okL 90 82 T90_29 = true := (okL_c (o90_28 hB)).2.2
theorem o90_30 (hB : BytesOK) : okL 90 85 T90_30 = true := (okL_c (o90_29 hB)).2.2
theorem o90_31 (hB : BytesOK) : okL 90 86 T90_31 = true := (okL_c (o90_30 hB)).2.2
theorem o90_32 (hB : BytesOK) : okL 90 89 T90_32 = true := (okL_c (o90_31 hB)).2.2
theorem o90_33 (hB : BytesOK) : okL 90 92 T90_33 = true := (okL_c (o90_32 hB)).2.2
theorem o90_34 (hB : BytesOK) : okL 90 93 T90_34 = true := (okL_c (o90_33 hB)).2.2
theorem o90_35 (hB : BytesOK) : okL 90 96 T90_35 = true := (okL_c (o90_34 hB)).2.2
theorem o90_36 (hB : BytesOK) : okL 90 97 T90_36 = true := (okL_c (o90_35 hB)).2.2
theorem o90_37 (hB : BytesOK) : okL 90 100 T90_37 = true := (okL_c (o90_36 hB)).2.2
theorem o90_38 (hB : BytesOK) : okL 90 101 T90_38 = true := (okL_c (o90_37 hB)).2.2
theorem o90_39 (hB : BytesOK) : okL 90 102 T90_39 = true := (okL_c (o90_38 hB)).2.2
theorem o90_40 (hB : BytesOK) : okL 90 105 T90_40 = true := (okL_c (o90_39 hB)).2.2
theorem o90_41 (hB : BytesOK) : okL 90 108 T90_41 = true := (okL_c (o90_40 hB)).2.2
theorem o90_42 (hB : BytesOK) : okL 90 109 T90_42 = true := (okL_c (o90_41 hB)).2.2
theorem o90_43 (hB : BytesOK) : okL 90 110 T90_43 = true := (okL_c (o90_42 hB)).2.2
theorem o90_44 (hB : BytesOK) : okL 90 113 T90_44 = true := (okL_c (o90_43 hB)).2.2
theorem o90_45 (hB : BytesOK) : okL 90 114 T90_45 = true := (okL_c (o90_44 hB)).2.2
theorem o90_46 (hB : BytesOK) : okL 90 117 T90_46 = true := (okL_c (o90_45 hB)).2.2
theorem o90_47 (hB : BytesOK) : okL 90 120 T90_47 = true := (okL_c (o90_46 hB)).2.2
theorem o90_48 (hB : BytesOK) : okL 90 121 T90_48 = true := (okL_c (o90_47 hB)).2.2
theorem o90_49 (hB : BytesOK) : okL 90 124 T90_49 = true := (okL_c (o90_48 hB)).2.2
theorem o90_50 (hB : BytesOK) : okL 90 127 T90_50 = true := (okL_c (o90_49 hB)).2.2
theorem o90_51 (hB : BytesOK) : okL 90 130 T90_51 = true := (okL_c (o90_50 hB)).2.2
theorem o90_52 (hB : BytesOK) : okL 90 131 T90_52 = true := (okL_c (o90_51 hB)).2.2
theorem o90_53 (hB : BytesOK) : okL 90 134 T90_53 = true := (okL_c (o90_52 hB)).2.2
theorem o90_54 (hB : BytesOK) : okL 90 135 T90_54 = true := (okL_c (o90_53 hB)).2.2
theorem o90_55 (hB : BytesOK) : okL 90 136 T90_55 = true := (okL_c (o90_54 hB)).2.2
theorem o90_56 (hB : BytesOK) : okL 90 137 T90_56 = true := (okL_c (o90_55 hB)).2.2
theorem o90_57 (hB : BytesOK) : okL 90 139 T90_57 = true := (okL_c (o90_56 hB)).2.2
theorem o90_58 (hB : BytesOK) : okL 90 142 T90_58 = true := (okL_c (o90_57 hB)).2.2
theorem o90_59 (hB : BytesOK) : okL 90 145 T90_59 = true := (okL_c (o90_58 hB)).2.2
theorem o90_60 (hB : BytesOK) : okL 90 146 T90_60 = true := (okL_c (o90_59 hB)).2.2
theorem o90_61 (hB : BytesOK) : okL 90 147 T90_61 = true := (okL_c (o90_60 hB)).2.2
theorem o90_62 (hB : BytesOK) : okL 90 150 T90_62 = true := (okL_c (o90_61 hB)).2.2
theorem o90_63 (hB : BytesOK) : okL 90 153 T90_63 = true := (okL_c (o90_62 hB)).2.2
theorem o90_64 (hB : BytesOK) : okL 90 154 T90_64 = true := (okL_c (o90_63 hB)).2.2
theorem o90_65 (hB : BytesOK) : okL 90 157 T90_65 = true := (okL_c (o90_64 hB)).2.2
theorem o90_66 (hB : BytesOK) : okL 90 158 T90_66 = true := (okL_c (o90_65 hB)).2.2
theorem o90_67 (hB : BytesOK) : okL 90 161 T90_67 = true := (okL_c (o90_66 hB)).2.2
theorem o90_68 (hB : BytesOK) : okL 90 163 T90_68 = true := (okL_c (o90_67 hB)).2.2
theorem o90_69 (hB : BytesOK) : okL 90 166 T90_69 = true := (okL_c (o90_68 hB)).2.2
theorem o90_70 (hB : BytesOK) : okL 90 167 T90_70 = true := (okL_c (o90_69 hB)).2.2
theorem o90_71 (hB : BytesOK) : okL 90 170 T90_71 = true := (okL_c (o90_70 hB)).2.2
theorem o90_72 (hB : BytesOK) : okL 90 173 T90_72 = true := (okL_c (o90_71 hB)).2.2
theorem o90_73 (hB : BytesOK) : okL 90 174 T90_73 = true := (okL_c (o90_72 hB)).2.2
theorem o90_74 (hB : BytesOK) : okL 90 175 T90_74 = true := (okL_c (o90_73 hB)).2.2
theorem o90_75 (hB : BytesOK) : okL 90 177 T90_75 = true := (okL_c (o90_74 hB)).2.2
theorem o90_76 (hB : BytesOK) : okL 90 180 T90_76 = true := (okL_c (o90_75 hB)).2.2
theorem o90_77 (hB : BytesOK) : okL 90 183 T90_77 = true := (okL_c (o90_76 hB)).2.2
theorem o90_78 (hB : BytesOK) : okL 90 184 T90_78 = true := (okL_c (o90_77 hB)).2.2
theorem o90_79 (hB : BytesOK) : okL 90 187 T90_79 = true := (okL_c (o90_78 hB)).2.2
theorem o90_80 (hB : BytesOK) : okL 90 188 T90_80 = true := (okL_c (o90_79 hB)).2.2
theorem o90_81 (hB : BytesOK) : okL 90 189 T90_81 = true := (okL_c (o90_80 hB)).2.2
theorem o90_82 (hB : BytesOK) : okL 90 190 T90_82 = true := (okL_c (o90_81 hB)).2.2
theorem o90_83 (hB : BytesOK) : okL 90 193 T90_83 = true := (okL_c (o90_82 hB)).2.2
theorem o90_84 (hB : BytesOK) : okL 90 194 T90_84 = true := (okL_c (o90_83 hB)).2.2
theorem o90_85 (hB : BytesOK) : okL 90 197 T90_85 = true := (okL_c (o90_84 hB)).2.2
theorem o90_86 (hB : BytesOK) : okL 90 198 T90_86 = true := (okL_c (o90_85 hB)).2.2
theorem o90_87 (hB : BytesOK) : okL 90 199 T90_87 = true := (okL_c (o90_86 hB)).2.2
theorem o90_88 (hB : BytesOK) : okL 90 202 T90_88 = true := (okL_c (o90_87 hB)).2.2
theorem ml90 : mml 90 = 4 := by decide +kernel
theorem mr90 : mret 90 = none := by decide +kernel
theorem mg90 : kGood 90 = true := by decide +kernel

def T91_42 : List Tok := []
def T91_41 : List Tok := (.ireturn, 1, 0, 0) :: T91_42
def T91_40 : List Tok := (.getfield 133, 3, 516, 317) :: T91_41
def T91_39 : List Tok := (.getfield 18, 3, 450, 411) :: T91_40
def T91_38 : List Tok := (.aload_n 0, 1, 0, 0) :: T91_39
def T91_37 : List Tok := (.invokevirtual 37, 3, 84, 682) :: T91_38
def T91_36 : List Tok := (.aload_n 0, 1, 0, 0) :: T91_37
def T91_35 : List Tok := (.goto 7, 3, 0, 0) :: T91_36
def T91_34 : List Tok := (.pop, 1, 0, 0) :: T91_35
def T91_33 : List Tok := (.invokevirtual 43, 3, 83, 686) :: T91_34
def T91_32 : List Tok := (.aload_n 0, 1, 0, 0) :: T91_33
def T91_31 : List Tok := (.ifCond .ge 11, 3, 0, 0) :: T91_32
def T91_30 : List Tok := (.getfield 133, 3, 516, 317) :: T91_31
def T91_29 : List Tok := (.getfield 18, 3, 450, 411) :: T91_30
def T91_28 : List Tok := (.aload_n 0, 1, 0, 0) :: T91_29
def T91_27 : List Tok := (.putfield 133, 3, 516, 317) :: T91_28
def T91_26 : List Tok := (.iconst (-1), 1, 0, 0) :: T91_27
def T91_25 : List Tok := (.goto 4, 3, 0, 0) :: T91_26
def T91_24 : List Tok := (.iconst 2, 1, 0, 0) :: T91_25
def T91_23 : List Tok := (.ifCond .eq 7, 3, 0, 0) :: T91_24
def T91_22 : List Tok := (.invokevirtual 65, 3, 85, 699) :: T91_23
def T91_21 : List Tok := (.ldc 131, 2, 1009, 767) :: T91_22
def T91_20 : List Tok := (.aload_n 0, 1, 0, 0) :: T91_21
def T91_19 : List Tok := (.goto 17, 3, 0, 0) :: T91_20
def T91_18 : List Tok := (.iconst 1, 1, 0, 0) :: T91_19
def T91_17 : List Tok := (.ifCond .eq 7, 3, 0, 0) :: T91_18
def T91_16 : List Tok := (.invokevirtual 65, 3, 85, 699) :: T91_17
def T91_15 : List Tok := (.ldc 129, 2, 1008, 766) :: T91_16
def T91_14 : List Tok := (.aload_n 0, 1, 0, 0) :: T91_15
def T91_13 : List Tok := (.goto 30, 3, 0, 0) :: T91_14
def T91_12 : List Tok := (.iconst 0, 1, 0, 0) :: T91_13
def T91_11 : List Tok := (.ifCond .eq 7, 3, 0, 0) :: T91_12
def T91_10 : List Tok := (.invokevirtual 65, 3, 85, 699) :: T91_11
def T91_9 : List Tok := (.ldc 127, 2, 1007, 765) :: T91_10
def T91_8 : List Tok := (.aload_n 0, 1, 0, 0) :: T91_9
def T91_7 : List Tok := (.getfield 18, 3, 450, 411) :: T91_8
def T91_6 : List Tok := (.aload_n 0, 1, 0, 0) :: T91_7
def T91_5 : List Tok := (.ireturn, 1, 0, 0) :: T91_6
def T91_4 : List Tok := (.iconst (-1), 1, 0, 0) :: T91_5
def T91_3 : List Tok := (.ifCond .ne 5, 3, 0, 0) :: T91_4
def T91_2 : List Tok := (.invokevirtual 106, 3, 87, 761) :: T91_3
def T91_1 : List Tok := (.ldc 125, 2, 1006, 760) :: T91_2
def T91_0 : List Tok := (.aload_n 0, 1, 0, 0) :: T91_1
theorem o91_0 (hB : BytesOK) : okL 91 0 T91_0 = true := by
  have h := hB.1 91
  rw [show tk 91 = T91_0 from by decide +kernel] at h
  exact h
theorem o91_1 (hB : BytesOK) : okL 91 1 T91_1 = true := (okL_c (o91_0 hB)).2.2
theorem o91_2 (hB : BytesOK) : okL 91 3 T91_2 = true := (okL_c (o91_1 hB)).2.2
theorem o91_3 (hB : BytesOK) : okL 91 6 T91_3 = true := (okL_c (o91_2 hB)).2.2
theorem o91_4 (hB : BytesOK) : okL 91 9 T91_4 = true := (okL_c (o91_3 hB)).2.2
theorem o91_5 (hB : BytesOK) : okL 91 10 T91_5 = true := (okL_c (o91_4 hB)).2.2
theorem o91_6 (hB : BytesOK) : okL 91 11 T91_6 = true := (okL_c (o91_5 hB)).2.2
theorem o91_7 (hB : BytesOK) : okL 91 12 T91_7 = true := (okL_c (o91_6 hB)).2.2
theorem o91_8 (hB : BytesOK) : okL 91 15 T91_8 = true := (okL_c (o91_7 hB)).2.2
theorem o91_9 (hB : BytesOK) : okL 91 16 T91_9 = true := (okL_c (o91_8 hB)).2.2
theorem o91_10 (hB : BytesOK) : okL 91 18 T91_10 = true := (okL_c (o91_9 hB)).2.2
theorem o91_11 (hB : BytesOK) : okL 91 21 T91_11 = true := (okL_c (o91_10 hB)).2.2
theorem o91_12 (hB : BytesOK) : okL 91 24 T91_12 = true := (okL_c (o91_11 hB)).2.2
theorem o91_13 (hB : BytesOK) : okL 91 25 T91_13 = true := (okL_c (o91_12 hB)).2.2
theorem o91_14 (hB : BytesOK) : okL 91 28 T91_14 = true := (okL_c (o91_13 hB)).2.2
theorem o91_15 (hB : BytesOK) : okL 91 29 T91_15 = true := (okL_c (o91_14 hB)).2.2
theorem o91_16 (hB : BytesOK) : okL 91 31 T91_16 = true := (okL_c (o91_15 hB)).2.2
theorem o91_17 (hB : BytesOK) : okL 91 34 T91_17 = true := (okL_c (o91_16 hB)).2.2
theorem o91_18 (hB : BytesOK) : okL 91 37 T91_18 = true := (okL_c (o91_17 hB)).2.2
theorem o91_19 (hB : BytesOK) : okL 91 38 T91_19 = true := (okL_c (o91_18 hB)).2.2
theorem o91_20 (hB : BytesOK) : okL 91 41 T91_20 = true := (okL_c (o91_19 hB)).2.2
theorem o91_21 (hB : BytesOK) : okL 91 42 T91_21 = true := (okL_c (o91_20 hB)).2.2
theorem o91_22 (hB : BytesOK) : okL 91 44 T91_22 = true := (okL_c (o91_21 hB)).2.2
theorem o91_23 (hB : BytesOK) : okL 91 47 T91_23 = true := (okL_c (o91_22 hB)).2.2
theorem o91_24 (hB : BytesOK) : okL 91 50 T91_24 = true := (okL_c (o91_23 hB)).2.2
theorem o91_25 (hB : BytesOK) : okL 91 51 T91_25 = true := (okL_c (o91_24 hB)).2.2
theorem o91_26 (hB : BytesOK) : okL 91 54 T91_26 = true := (okL_c (o91_25 hB)).2.2
theorem o91_27 (hB : BytesOK) : okL 91 55 T91_27 = true := (okL_c (o91_26 hB)).2.2
theorem o91_28 (hB : BytesOK) : okL 91 58 T91_28 = true := (okL_c (o91_27 hB)).2.2
theorem o91_29 (hB : BytesOK) : okL 91 59 T91_29 = true := (okL_c (o91_28 hB)).2.2
theorem o91_30 (hB : BytesOK) : okL 91 62 T91_30 = true := (okL_c (o91_29 hB)).2.2
theorem o91_31 (hB : BytesOK) : okL 91 65 T91_31 = true := (okL_c (o91_30 hB)).2.2
theorem o91_32 (hB : BytesOK) : okL 91 68 T91_32 = true := (okL_c (o91_31 hB)).2.2
theorem o91_33 (hB : BytesOK) : okL 91 69 T91_33 = true := (okL_c (o91_32 hB)).2.2
theorem o91_34 (hB : BytesOK) : okL 91 72 T91_34 = true := (okL_c (o91_33 hB)).2.2
theorem o91_35 (hB : BytesOK) : okL 91 73 T91_35 = true := (okL_c (o91_34 hB)).2.2
theorem o91_36 (hB : BytesOK) : okL 91 76 T91_36 = true := (okL_c (o91_35 hB)).2.2
theorem o91_37 (hB : BytesOK) : okL 91 77 T91_37 = true := (okL_c (o91_36 hB)).2.2
theorem o91_38 (hB : BytesOK) : okL 91 80 T91_38 = true := (okL_c (o91_37 hB)).2.2
theorem o91_39 (hB : BytesOK) : okL 91 81 T91_39 = true := (okL_c (o91_38 hB)).2.2
theorem o91_40 (hB : BytesOK) : okL 91 84 T91_40 = true := (okL_c (o91_39 hB)).2.2
theorem o91_41 (hB : BytesOK) : okL 91 87 T91_41 = true := (okL_c (o91_40 hB)).2.2
theorem ml91 : mml 91 = 1 := by decide +kernel
theorem mr91 : mret 91 = some .int := by decide +kernel
theorem mg91 : kGood 91 = true := by decide +kernel

def T92_87 : List Tok := []
def T92_86 : List Tok := (.ireturn, 1, 0, 0) :: T92_87
def T92_85 : List Tok := (.iaload, 1, 0, 0) :: T92_86
def T92_84 : List Tok := (.iconst 0, 1, 0, 0) :: T92_85
def T92_83 : List Tok := (.getfield 139, 3, 518, 322) :: T92_84
def T92_82 : List Tok := (.getfield 18, 3, 450, 411) :: T92_83
def T92_81 : List Tok := (.aload_n 0, 1, 0, 0) :: T92_82
def T92_80 : List Tok := (.goto (-123), 3, 0, 0) :: T92_81
def T92_79 : List Tok := (.iinc 1 1, 3, 0, 0) :: T92_80
def T92_78 : List Tok := (.putfield 136, 3, 517, 320) :: T92_79
def T92_77 : List Tok := (.iadd, 1, 0, 0) :: T92_78
def T92_76 : List Tok := (.iconst 1, 1, 0, 0) :: T92_77
def T92_75 : List Tok := (.iload_n 1, 1, 0, 0) :: T92_76
def T92_74 : List Tok := (.getfield 18, 3, 450, 411) :: T92_75
def T92_73 : List Tok := (.aload_n 0, 1, 0, 0) :: T92_74
def T92_72 : List Tok := (.iastore, 1, 0, 0) :: T92_73
def T92_71 : List Tok := (.invokevirtual 90, 3, 88, 772) :: T92_72
def T92_70 : List Tok := (.sipush 999, 3, 0, 0) :: T92_71
def T92_69 : List Tok := (.iconst 0, 1, 0, 0) :: T92_70
def T92_68 : List Tok := (.aload_n 0, 1, 0, 0) :: T92_69
def T92_67 : List Tok := (.iadd, 1, 0, 0) :: T92_68
def T92_66 : List Tok := (.iconst 1, 1, 0, 0) :: T92_67
def T92_65 : List Tok := (.iload_n 1, 1, 0, 0) :: T92_66
def T92_64 : List Tok := (.getfield 139, 3, 518, 322) :: T92_65
def T92_63 : List Tok := (.getfield 18, 3, 450, 411) :: T92_64
def T92_62 : List Tok := (.aload_n 0, 1, 0, 0) :: T92_63
def T92_61 : List Tok := (.ifCond .eq 22, 3, 0, 0) :: T92_62
def T92_60 : List Tok := (.invokevirtual 106, 3, 87, 761) :: T92_61
def T92_59 : List Tok := (.ldc 71, 2, 1001, 751) :: T92_60
def T92_58 : List Tok := (.aload_n 0, 1, 0, 0) :: T92_59
def T92_57 : List Tok := (.ifCond .ge 31, 3, 0, 0) :: T92_58
def T92_56 : List Tok := (.getfield 31, 3, 455, 417) :: T92_57
def T92_55 : List Tok := (.aload_n 0, 1, 0, 0) :: T92_56
def T92_54 : List Tok := (.iastore, 1, 0, 0) :: T92_55
def T92_53 : List Tok := (.invokevirtual 90, 3, 88, 772) :: T92_54
def T92_52 : List Tok := (.sipush 999, 3, 0, 0) :: T92_53
def T92_51 : List Tok := (.iadd, 1, 0, 0) :: T92_52
def T92_50 : List Tok := (.iconst 1, 1, 0, 0) :: T92_51
def T92_49 : List Tok := (.iaload, 1, 0, 0) :: T92_50
def T92_48 : List Tok := (.isub, 1, 0, 0) :: T92_49
def T92_47 : List Tok := (.iconst 1, 1, 0, 0) :: T92_48
def T92_46 : List Tok := (.iload_n 1, 1, 0, 0) :: T92_47
def T92_45 : List Tok := (.getfield 144, 3, 519, 324) :: T92_46
def T92_44 : List Tok := (.getfield 18, 3, 450, 411) :: T92_45
def T92_43 : List Tok := (.aload_n 0, 1, 0, 0) :: T92_44
def T92_42 : List Tok := (.goto 16, 3, 0, 0) :: T92_43
def T92_41 : List Tok := (.iconst 0, 1, 0, 0) :: T92_42
def T92_40 : List Tok := (.ifCond .ne 7, 3, 0, 0) :: T92_41
def T92_39 : List Tok := (.iload_n 1, 1, 0, 0) :: T92_40
def T92_38 : List Tok := (.aload_n 0, 1, 0, 0) :: T92_39
def T92_37 : List Tok := (.iload_n 1, 1, 0, 0) :: T92_38
def T92_36 : List Tok := (.getfield 144, 3, 519, 324) :: T92_37
def T92_35 : List Tok := (.getfield 18, 3, 450, 411) :: T92_36
def T92_34 : List Tok := (.aload_n 0, 1, 0, 0) :: T92_35
def T92_33 : List Tok := (.invokevirtual 37, 3, 84, 682) :: T92_34
def T92_32 : List Tok := (.aload_n 0, 1, 0, 0) :: T92_33
def T92_31 : List Tok := (.goto 95, 3, 0, 0) :: T92_32
def T92_30 : List Tok := (.pop, 1, 0, 0) :: T92_31
def T92_29 : List Tok := (.invokevirtual 43, 3, 83, 686) :: T92_30
def T92_28 : List Tok := (.aload_n 0, 1, 0, 0) :: T92_29
def T92_27 : List Tok := (.if_icmp .ne 11, 3, 0, 0) :: T92_28
def T92_26 : List Tok := (.iconst 3, 1, 0, 0) :: T92_27
def T92_25 : List Tok := (.iload_n 1, 1, 0, 0) :: T92_26
def T92_24 : List Tok := (.ifCond .eq 108, 3, 0, 0) :: T92_25
def T92_23 : List Tok := (.invokevirtual 65, 3, 85, 699) :: T92_24
def T92_22 : List Tok := (.ldc 142, 2, 1010, 776) :: T92_23
def T92_21 : List Tok := (.aload_n 0, 1, 0, 0) :: T92_22
def T92_20 : List Tok := (.ifCond .ge 117, 3, 0, 0) :: T92_21
def T92_19 : List Tok := (.getfield 31, 3, 455, 417) :: T92_20
def T92_18 : List Tok := (.aload_n 0, 1, 0, 0) :: T92_19
def T92_17 : List Tok := (.if_icmp .gt 124, 3, 0, 0) :: T92_18
def T92_16 : List Tok := (.iconst 3, 1, 0, 0) :: T92_17
def T92_15 : List Tok := (.iload_n 1, 1, 0, 0) :: T92_16
def T92_14 : List Tok := (.istore_n 1, 1, 0, 0) :: T92_15
def T92_13 : List Tok := (.iconst 0, 1, 0, 0) :: T92_14
def T92_12 : List Tok := (.iastore, 1, 0, 0) :: T92_13
def T92_11 : List Tok := (.invokevirtual 90, 3, 88, 772) :: T92_12
def T92_10 : List Tok := (.sipush 999, 3, 0, 0) :: T92_11
def T92_9 : List Tok := (.iconst 0, 1, 0, 0) :: T92_10
def T92_8 : List Tok := (.aload_n 0, 1, 0, 0) :: T92_9
def T92_7 : List Tok := (.iconst 0, 1, 0, 0) :: T92_8
def T92_6 : List Tok := (.getfield 139, 3, 518, 322) :: T92_7
def T92_5 : List Tok := (.getfield 18, 3, 450, 411) :: T92_6
def T92_4 : List Tok := (.aload_n 0, 1, 0, 0) :: T92_5
def T92_3 : List Tok := (.putfield 136, 3, 517, 320) :: T92_4
def T92_2 : List Tok := (.iconst 0, 1, 0, 0) :: T92_3
def T92_1 : List Tok := (.getfield 18, 3, 450, 411) :: T92_2
def T92_0 : List Tok := (.aload_n 0, 1, 0, 0) :: T92_1
theorem o92_0 (hB : BytesOK) : okL 92 0 T92_0 = true := by
  have h := hB.1 92
  rw [show tk 92 = T92_0 from by decide +kernel] at h
  exact h
theorem o92_1 (hB : BytesOK) : okL 92 1 T92_1 = true := (okL_c (o92_0 hB)).2.2
theorem o92_2 (hB : BytesOK) : okL 92 4 T92_2 = true := (okL_c (o92_1 hB)).2.2
theorem o92_3 (hB : BytesOK) : okL 92 5 T92_3 = true := (okL_c (o92_2 hB)).2.2
theorem o92_4 (hB : BytesOK) : okL 92 8 T92_4 = true := (okL_c (o92_3 hB)).2.2
theorem o92_5 (hB : BytesOK) : okL 92 9 T92_5 = true := (okL_c (o92_4 hB)).2.2
theorem o92_6 (hB : BytesOK) : okL 92 12 T92_6 = true := (okL_c (o92_5 hB)).2.2
theorem o92_7 (hB : BytesOK) : okL 92 15 T92_7 = true := (okL_c (o92_6 hB)).2.2
theorem o92_8 (hB : BytesOK) : okL 92 16 T92_8 = true := (okL_c (o92_7 hB)).2.2
theorem o92_9 (hB : BytesOK) : okL 92 17 T92_9 = true := (okL_c (o92_8 hB)).2.2
theorem o92_10 (hB : BytesOK) : okL 92 18 T92_10 = true := (okL_c (o92_9 hB)).2.2
theorem o92_11 (hB : BytesOK) : okL 92 21 T92_11 = true := (okL_c (o92_10 hB)).2.2
theorem o92_12 (hB : BytesOK) : okL 92 24 T92_12 = true := (okL_c (o92_11 hB)).2.2
theorem o92_13 (hB : BytesOK) : okL 92 25 T92_13 = true := (okL_c (o92_12 hB)).2.2
theorem o92_14 (hB : BytesOK) : okL 92 26 T92_14 = true := (okL_c (o92_13 hB)).2.2
theorem o92_15 (hB : BytesOK) : okL 92 27 T92_15 = true := (okL_c (o92_14 hB)).2.2
theorem o92_16 (hB : BytesOK) : okL 92 28 T92_16 = true := (okL_c (o92_15 hB)).2.2
theorem o92_17 (hB : BytesOK) : okL 92 29 T92_17 = true := (okL_c (o92_16 hB)).2.2
theorem o92_18 (hB : BytesOK) : okL 92 32 T92_18 = true := (okL_c (o92_17 hB)).2.2
theorem o92_19 (hB : BytesOK) : okL 92 33 T92_19 = true := (okL_c (o92_18 hB)).2.2
theorem o92_20 (hB : BytesOK) : okL 92 36 T92_20 = true := (okL_c (o92_19 hB)).2.2
theorem o92_21 (hB : BytesOK) : okL 92 39 T92_21 = true := (okL_c (o92_20 hB)).2.2
theorem o92_22 (hB : BytesOK) : okL 92 40 T92_22 = true := (okL_c (o92_21 hB)).2.2
theorem o92_23 (hB : BytesOK) : okL 92 42 T92_23 = true := (okL_c (o92_22 hB)).2.2
theorem o92_24 (hB : BytesOK) : okL 92 45 T92_24 = true := (okL_c (o92_23 hB)).2.2
theorem o92_25 (hB : BytesOK) : okL 92 48 T92_25 = true := (okL_c (o92_24 hB)).2.2
theorem o92_26 (hB : BytesOK) : okL 92 49 T92_26 = true := (okL_c (o92_25 hB)).2.2
theorem o92_27 (hB : BytesOK) : okL 92 50 T92_27 = true := (okL_c (o92_26 hB)).2.2
theorem o92_28 (hB : BytesOK) : okL 92 53 T92_28 = true := (okL_c (o92_27 hB)).2.2
theorem o92_29 (hB : BytesOK) : okL 92 54 T92_29 = true := (okL_c (o92_28 hB)).2.2
theorem o92_30 (hB : BytesOK) : okL 92 57 T92_30 = true := (okL_c (o92_29 hB)).2.2
theorem o92_31 (hB : BytesOK) : okL 92 58 T92_31 = true := (okL_c (o92_30 hB)).2.2
theorem o92_32 (hB : BytesOK) : okL 92 61 T92_32 = true := (okL_c (o92_31 hB)).2.2
theorem o92_33 (hB : BytesOK) : okL 92 62 T92_33 = true := (okL_c (o92_32 hB)).2.2
theorem o92_34 (hB : BytesOK) : okL 92 65 T92_34 = true := (okL_c (o92_33 hB)).2.2
theorem o92_35 (hB : BytesOK) : okL 92 66 T92_35 = true := (okL_c (o92_34 hB)).2.2
theorem o92_36 (hB : BytesOK) : okL 92 69 T92_36 = true := (okL_c (o92_35 hB)).2.2
theorem o92_37 (hB : BytesOK) : okL 92 72 T92_37 = true := (okL_c (o92_36 hB)).2.2
theorem o92_38 (hB : BytesOK) : okL 92 73 T92_38 = true := (okL_c (o92_37 hB)).2.2
theorem o92_39 (hB : BytesOK) : okL 92 74 T92_39 = true := (okL_c (o92_38 hB)).2.2
theorem o92_40 (hB : BytesOK) : okL 92 75 T92_40 = true := (okL_c (o92_39 hB)).2.2
theorem o92_41 (hB : BytesOK) : okL 92 78 T92_41 = true := (okL_c (o92_40 hB)).2.2
theorem o92_42 (hB : BytesOK) : okL 92 79 T92_42 = true := (okL_c (o92_41 hB)).2.2
theorem o92_43 (hB : BytesOK) : okL 92 82 T92_43 = true := (okL_c (o92_42 hB)).2.2
theorem o92_44 (hB : BytesOK) : okL 92 83 T92_44 = true := (okL_c (o92_43 hB)).2.2
theorem o92_45 (hB : BytesOK) : okL 92 86 T92_45 = true := (okL_c (o92_44 hB)).2.2
theorem o92_46 (hB : BytesOK) : okL 92 89 T92_46 = true := (okL_c (o92_45 hB)).2.2
theorem o92_47 (hB : BytesOK) : okL 92 90 T92_47 = true := (okL_c (o92_46 hB)).2.2
theorem o92_48 (hB : BytesOK) : okL 92 91 T92_48 = true := (okL_c (o92_47 hB)).2.2
theorem o92_49 (hB : BytesOK) : okL 92 92 T92_49 = true := (okL_c (o92_48 hB)).2.2
theorem o92_50 (hB : BytesOK) : okL 92 93 T92_50 = true := (okL_c (o92_49 hB)).2.2
theorem o92_51 (hB : BytesOK) : okL 92 94 T92_51 = true := (okL_c (o92_50 hB)).2.2
theorem o92_52 (hB : BytesOK) : okL 92 95 T92_52 = true := (okL_c (o92_51 hB)).2.2
theorem o92_53 (hB : BytesOK) : okL 92 98 T92_53 = true := (okL_c (o92_52 hB)).2.2
theorem o92_54 (hB : BytesOK) : okL 92 101 T92_54 = true := (okL_c (o92_53 hB)).2.2
theorem o92_55 (hB : BytesOK) : okL 92 102 T92_55 = true := (okL_c (o92_54 hB)).2.2
theorem o92_56 (hB : BytesOK) : okL 92 103 T92_56 = true := (okL_c (o92_55 hB)).2.2
theorem o92_57 (hB : BytesOK) : okL 92 106 T92_57 = true := (okL_c (o92_56 hB)).2.2
theorem o92_58 (hB : BytesOK) : okL 92 109 T92_58 = true := (okL_c (o92_57 hB)).2.2
theorem o92_59 (hB : BytesOK) : okL 92 110 T92_59 = true := (okL_c (o92_58 hB)).2.2
theorem o92_60 (hB : BytesOK) : okL 92 112 T92_60 = true := (okL_c (o92_59 hB)).2.2
theorem o92_61 (hB : BytesOK) : okL 92 115 T92_61 = true := (okL_c (o92_60 hB)).2.2
theorem o92_62 (hB : BytesOK) : okL 92 118 T92_62 = true := (okL_c (o92_61 hB)).2.2
theorem o92_63 (hB : BytesOK) : okL 92 119 T92_63 = true := (okL_c (o92_62 hB)).2.2
theorem o92_64 (hB : BytesOK) : okL 92 122 T92_64 = true := (okL_c (o92_63 hB)).2.2
theorem o92_65 (hB : BytesOK) : okL 92 125 T92_65 = true := (okL_c (o92_64 hB)).2.2
theorem o92_66 (hB : BytesOK) : okL 92 126 T92_66 = true := (okL_c (o92_65 hB)).2.2
theorem o92_67 (hB : BytesOK) : okL 92 127 T92_67 = true := (okL_c (o92_66 hB)).2.2
theorem o92_68 (hB : BytesOK) : okL 92 128 T92_68 = true := (okL_c (o92_67 hB)).2.2
theorem o92_69 (hB : BytesOK) : okL 92 129 T92_69 = true := (okL_c (o92_68 hB)).2.2
theorem o92_70 (hB : BytesOK) : okL 92 130 T92_70 = true := (okL_c (o92_69 hB)).2.2
theorem o92_71 (hB : BytesOK) : okL 92 133 T92_71 = true := (okL_c (o92_70 hB)).2.2
theorem o92_72 (hB : BytesOK) : okL 92 136 T92_72 = true := (okL_c (o92_71 hB)).2.2
theorem o92_73 (hB : BytesOK) : okL 92 137 T92_73 = true := (okL_c (o92_72 hB)).2.2
theorem o92_74 (hB : BytesOK) : okL 92 138 T92_74 = true := (okL_c (o92_73 hB)).2.2
theorem o92_75 (hB : BytesOK) : okL 92 141 T92_75 = true := (okL_c (o92_74 hB)).2.2
theorem o92_76 (hB : BytesOK) : okL 92 142 T92_76 = true := (okL_c (o92_75 hB)).2.2
theorem o92_77 (hB : BytesOK) : okL 92 143 T92_77 = true := (okL_c (o92_76 hB)).2.2
theorem o92_78 (hB : BytesOK) : okL 92 144 T92_78 = true := (okL_c (o92_77 hB)).2.2
theorem o92_79 (hB : BytesOK) : okL 92 147 T92_79 = true := (okL_c (o92_78 hB)).2.2
theorem o92_80 (hB : BytesOK) : okL 92 150 T92_80 = true := (okL_c (o92_79 hB)).2.2
theorem o92_81 (hB : BytesOK) : okL 92 153 T92_81 = true := (okL_c (o92_80 hB)).2.2
theorem o92_82 (hB : BytesOK) : okL 92 154 T92_82 = true := (okL_c (o92_81 hB)).2.2
theorem o92_83 (hB : BytesOK) : okL 92 157 T92_83 = true := (okL_c (o92_82 hB)).2.2
theorem o92_84 (hB : BytesOK) : okL 92 160 T92_84 = true := (okL_c (o92_83 hB)).2.2
theorem o92_85 (hB : BytesOK) : okL 92 161 T92_85 = true := (okL_c (o92_84 hB)).2.2
theorem o92_86 (hB : BytesOK) : okL 92 162 T92_86 = true := (okL_c (o92_85 hB)).2.2
theorem ml92 : mml 92 = 2 := by decide +kernel
theorem mr92 : mret 92 = some .int := by decide +kernel
theorem mg92 : kGood 92 = true := by decide +kernel

def T93_22 : List Tok := []
def T93_21 : List Tok := (.ireturn, 1, 0, 0) :: T93_22
def T93_20 : List Tok := (.iload_n 1, 1, 0, 0) :: T93_21
def T93_19 : List Tok := (.iastore, 1, 0, 0) :: T93_20
def T93_18 : List Tok := (.invokevirtual 90, 3, 88, 772) :: T93_19
def T93_17 : List Tok := (.sipush 999, 3, 0, 0) :: T93_18
def T93_16 : List Tok := (.iconst 0, 1, 0, 0) :: T93_17
def T93_15 : List Tok := (.aload_n 0, 1, 0, 0) :: T93_16
def T93_14 : List Tok := (.iload_n 1, 1, 0, 0) :: T93_15
def T93_13 : List Tok := (.getfield 149, 3, 521, 330) :: T93_14
def T93_12 : List Tok := (.getfield 18, 3, 450, 411) :: T93_13
def T93_11 : List Tok := (.aload_n 0, 1, 0, 0) :: T93_12
def T93_10 : List Tok := (.ifCond .eq 20, 3, 0, 0) :: T93_11
def T93_9 : List Tok := (.invokevirtual 106, 3, 87, 761) :: T93_10
def T93_8 : List Tok := (.ldc 147, 2, 1011, 781) :: T93_9
def T93_7 : List Tok := (.aload_n 0, 1, 0, 0) :: T93_8
def T93_6 : List Tok := (.ifCond .lt 29, 3, 0, 0) :: T93_7
def T93_5 : List Tok := (.iload_n 1, 1, 0, 0) :: T93_6
def T93_4 : List Tok := (.istore_n 1, 1, 0, 0) :: T93_5
def T93_3 : List Tok := (.invokevirtual 90, 3, 88, 772) :: T93_4
def T93_2 : List Tok := (.iconst 3, 1, 0, 0) :: T93_3
def T93_1 : List Tok := (.iconst 0, 1, 0, 0) :: T93_2
def T93_0 : List Tok := (.aload_n 0, 1, 0, 0) :: T93_1
theorem o93_0 (hB : BytesOK) : okL 93 0 T93_0 = true := by
  have h := hB.1 93
  rw [show tk 93 = T93_0 from by decide +kernel] at h
  exact h
theorem o93_1 (hB : BytesOK) : okL 93 1 T93_1 = true := (okL_c (o93_0 hB)).2.2
theorem o93_2 (hB : BytesOK) : okL 93 2 T93_2 = true := (okL_c (o93_1 hB)).2.2
theorem o93_3 (hB : BytesOK) : okL 93 3 T93_3 = true := (okL_c (o93_2 hB)).2.2
theorem o93_4 (hB : BytesOK) : okL 93 6 T93_4 = true := (okL_c (o93_3 hB)).2.2
theorem o93_5 (hB : BytesOK) : okL 93 7 T93_5 = true := (okL_c (o93_4 hB)).2.2
theorem o93_6 (hB : BytesOK) : okL 93 8 T93_6 = true := (okL_c (o93_5 hB)).2.2
theorem o93_7 (hB : BytesOK) : okL 93 11 T93_7 = true := (okL_c (o93_6 hB)).2.2
theorem o93_8 (hB : BytesOK) : okL 93 12 T93_8 = true := (okL_c (o93_7 hB)).2.2
theorem o93_9 (hB : BytesOK) : okL 93 14 T93_9 = true := (okL_c (o93_8 hB)).2.2
theorem o93_10 (hB : BytesOK) : okL 93 17 T93_10 = true := (okL_c (o93_9 hB)).2.2
theorem o93_11 (hB : BytesOK) : okL 93 20 T93_11 = true := (okL_c (o93_10 hB)).2.2
theorem o93_12 (hB : BytesOK) : okL 93 21 T93_12 = true := (okL_c (o93_11 hB)).2.2
theorem o93_13 (hB : BytesOK) : okL 93 24 T93_13 = true := (okL_c (o93_12 hB)).2.2
theorem o93_14 (hB : BytesOK) : okL 93 27 T93_14 = true := (okL_c (o93_13 hB)).2.2
theorem o93_15 (hB : BytesOK) : okL 93 28 T93_15 = true := (okL_c (o93_14 hB)).2.2
theorem o93_16 (hB : BytesOK) : okL 93 29 T93_16 = true := (okL_c (o93_15 hB)).2.2
theorem o93_17 (hB : BytesOK) : okL 93 30 T93_17 = true := (okL_c (o93_16 hB)).2.2
theorem o93_18 (hB : BytesOK) : okL 93 33 T93_18 = true := (okL_c (o93_17 hB)).2.2
theorem o93_19 (hB : BytesOK) : okL 93 36 T93_19 = true := (okL_c (o93_18 hB)).2.2
theorem o93_20 (hB : BytesOK) : okL 93 37 T93_20 = true := (okL_c (o93_19 hB)).2.2
theorem o93_21 (hB : BytesOK) : okL 93 38 T93_21 = true := (okL_c (o93_20 hB)).2.2
theorem ml93 : mml 93 = 2 := by decide +kernel
theorem mr93 : mret 93 = some .int := by decide +kernel
theorem mg93 : kGood 93 = true := by decide +kernel

def T94_61 : List Tok := []
def T94_60 : List Tok := (.ireturn, 1, 0, 0) :: T94_61
def T94_59 : List Tok := (.iconst 1, 1, 0, 0) :: T94_60
def T94_58 : List Tok := (.invokevirtual 113, 3, 100, 797) :: T94_59
def T94_57 : List Tok := (.bipush (-3), 2, 0, 0) :: T94_58
def T94_56 : List Tok := (.getfield 18, 3, 450, 411) :: T94_57
def T94_55 : List Tok := (.aload_n 0, 1, 0, 0) :: T94_56
def T94_54 : List Tok := (.ifCond .eq 12, 3, 0, 0) :: T94_55
def T94_53 : List Tok := (.iload_n 2, 1, 0, 0) :: T94_54
def T94_52 : List Tok := (.goto (-89), 3, 0, 0) :: T94_53
def T94_51 : List Tok := (.iinc 3 1, 3, 0, 0) :: T94_52
def T94_50 : List Tok := (.invokevirtual 113, 3, 100, 797) :: T94_51
def T94_49 : List Tok := (.bipush (-2), 2, 0, 0) :: T94_50
def T94_48 : List Tok := (.getfield 18, 3, 450, 411) :: T94_49
def T94_47 : List Tok := (.aload_n 0, 1, 0, 0) :: T94_48
def T94_46 : List Tok := (.ifCond .eq 12, 3, 0, 0) :: T94_47
def T94_45 : List Tok := (.iload 4, 2, 0, 0) :: T94_46
def T94_44 : List Tok := (.ireturn, 1, 0, 0) :: T94_45
def T94_43 : List Tok := (.iconst 0, 1, 0, 0) :: T94_44
def T94_42 : List Tok := (.ifCond .ne 5, 3, 0, 0) :: T94_43
def T94_41 : List Tok := (.invokevirtual 151, 3, 95, 787) :: T94_42
def T94_40 : List Tok := (.iload_n 1, 1, 0, 0) :: T94_41
def T94_39 : List Tok := (.aload_n 0, 1, 0, 0) :: T94_40
def T94_38 : List Tok := (.invokevirtual 37, 3, 84, 682) :: T94_39
def T94_37 : List Tok := (.aload_n 0, 1, 0, 0) :: T94_38
def T94_36 : List Tok := (.istore_n 2, 1, 0, 0) :: T94_37
def T94_35 : List Tok := (.iconst 1, 1, 0, 0) :: T94_36
def T94_34 : List Tok := (.ifCond .ne 5, 3, 0, 0) :: T94_35
def T94_33 : List Tok := (.iload 4, 2, 0, 0) :: T94_34
def T94_32 : List Tok := (.invokevirtual 113, 3, 100, 797) :: T94_33
def T94_31 : List Tok := (.bipush (-3), 2, 0, 0) :: T94_32
def T94_30 : List Tok := (.getfield 18, 3, 450, 411) :: T94_31
def T94_29 : List Tok := (.aload_n 0, 1, 0, 0) :: T94_30
def T94_28 : List Tok := (.ifCond .eq 12, 3, 0, 0) :: T94_29
def T94_27 : List Tok := (.iload_n 2, 1, 0, 0) :: T94_28
def T94_26 : List Tok := (.ifCond .ne 16, 3, 0, 0) :: T94_27
def T94_25 : List Tok := (.iload 4, 2, 0, 0) :: T94_26
def T94_24 : List Tok := (.istore 4, 2, 0, 0) :: T94_25
def T94_23 : List Tok := (.invokevirtual 65, 3, 85, 699) :: T94_24
def T94_22 : List Tok := (.ldc 154, 2, 1018, 808) :: T94_23
def T94_21 : List Tok := (.aload_n 0, 1, 0, 0) :: T94_22
def T94_20 : List Tok := (.ifCond .eq 70, 3, 0, 0) :: T94_21
def T94_19 : List Tok := (.invokevirtual 65, 3, 85, 699) :: T94_20
def T94_18 : List Tok := (.ldc 156, 2, 1019, 809) :: T94_19
def T94_17 : List Tok := (.aload_n 0, 1, 0, 0) :: T94_18
def T94_16 : List Tok := (.ifCond .ne 12, 3, 0, 0) :: T94_17
def T94_15 : List Tok := (.invokevirtual 65, 3, 85, 699) :: T94_16
def T94_14 : List Tok := (.ldc 154, 2, 1018, 808) :: T94_15
def T94_13 : List Tok := (.aload_n 0, 1, 0, 0) :: T94_14
def T94_12 : List Tok := (.if_icmp .ge 88, 3, 0, 0) :: T94_13
def T94_11 : List Tok := (.sipush 220, 3, 0, 0) :: T94_12
def T94_10 : List Tok := (.iload_n 3, 1, 0, 0) :: T94_11
def T94_9 : List Tok := (.istore_n 3, 1, 0, 0) :: T94_10
def T94_8 : List Tok := (.iconst 0, 1, 0, 0) :: T94_9
def T94_7 : List Tok := (.ireturn, 1, 0, 0) :: T94_8
def T94_6 : List Tok := (.iconst 0, 1, 0, 0) :: T94_7
def T94_5 : List Tok := (.ifCond .ne 5, 3, 0, 0) :: T94_6
def T94_4 : List Tok := (.invokevirtual 151, 3, 95, 787) :: T94_5
def T94_3 : List Tok := (.iload_n 1, 1, 0, 0) :: T94_4
def T94_2 : List Tok := (.aload_n 0, 1, 0, 0) :: T94_3
def T94_1 : List Tok := (.istore_n 2, 1, 0, 0) :: T94_2
def T94_0 : List Tok := (.iconst 0, 1, 0, 0) :: T94_1
theorem o94_0 (hB : BytesOK) : okL 94 0 T94_0 = true := by
  have h := hB.1 94
  rw [show tk 94 = T94_0 from by decide +kernel] at h
  exact h
theorem o94_1 (hB : BytesOK) : okL 94 1 T94_1 = true := (okL_c (o94_0 hB)).2.2
theorem o94_2 (hB : BytesOK) : okL 94 2 T94_2 = true := (okL_c (o94_1 hB)).2.2
theorem o94_3 (hB : BytesOK) : okL 94 3 T94_3 = true := (okL_c (o94_2 hB)).2.2
theorem o94_4 (hB : BytesOK) : okL 94 4 T94_4 = true := (okL_c (o94_3 hB)).2.2
theorem o94_5 (hB : BytesOK) : okL 94 7 T94_5 = true := (okL_c (o94_4 hB)).2.2
theorem o94_6 (hB : BytesOK) : okL 94 10 T94_6 = true := (okL_c (o94_5 hB)).2.2
theorem o94_7 (hB : BytesOK) : okL 94 11 T94_7 = true := (okL_c (o94_6 hB)).2.2
theorem o94_8 (hB : BytesOK) : okL 94 12 T94_8 = true := (okL_c (o94_7 hB)).2.2
theorem o94_9 (hB : BytesOK) : okL 94 13 T94_9 = true := (okL_c (o94_8 hB)).2.2
theorem o94_10 (hB : BytesOK) : okL 94 14 T94_10 = true := (okL_c (o94_9 hB)).2.2
theorem o94_11 (hB : BytesOK) : okL 94 15 T94_11 = true := (okL_c (o94_10 hB)).2.2
theorem o94_12 (hB : BytesOK) : okL 94 18 T94_12 = true := (okL_c (o94_11 hB)).2.2
theorem o94_13 (hB : BytesOK) : okL 94 21 T94_13 = true := (okL_c (o94_12 hB)).2.2
theorem o94_14 (hB : BytesOK) : okL 94 22 T94_14 = true := (okL_c (o94_13 hB)).2.2
theorem o94_15 (hB : BytesOK) : okL 94 24 T94_15 = true := (okL_c (o94_14 hB)).2.2
theorem o94_16 (hB : BytesOK) : okL 94 27 T94_16 = true := (okL_c (o94_15 hB)).2.2
theorem o94_17 (hB : BytesOK) : okL 94 30 T94_17 = true := (okL_c (o94_16 hB)).2.2
theorem o94_18 (hB : BytesOK) : okL 94 31 T94_18 = true := (okL_c (o94_17 hB)).2.2
theorem o94_19 (hB : BytesOK) : okL 94 33 T94_19 = true := (okL_c (o94_18 hB)).2.2
theorem o94_20 (hB : BytesOK) : okL 94 36 T94_20 = true := (okL_c (o94_19 hB)).2.2
theorem o94_21 (hB : BytesOK) : okL 94 39 T94_21 = true := (okL_c (o94_20 hB)).2.2
theorem o94_22 (hB : BytesOK) : okL 94 40 T94_22 = true := (okL_c (o94_21 hB)).2.2
theorem o94_23 (hB : BytesOK) : okL 94 42 T94_23 = true := (okL_c (o94_22 hB)).2.2
theorem o94_24 (hB : BytesOK) : okL 94 45 T94_24 = true := (okL_c (o94_23 hB)).2.2
theorem o94_25 (hB : BytesOK) : okL 94 47 T94_25 = true := (okL_c (o94_24 hB)).2.2
theorem o94_26 (hB : BytesOK) : okL 94 49 T94_26 = true := (okL_c (o94_25 hB)).2.2
theorem o94_27 (hB : BytesOK) : okL 94 52 T94_27 = true := (okL_c (o94_26 hB)).2.2
theorem o94_28 (hB : BytesOK) : okL 94 53 T94_28 = true := (okL_c (o94_27 hB)).2.2
theorem o94_29 (hB : BytesOK) : okL 94 56 T94_29 = true := (okL_c (o94_28 hB)).2.2
theorem o94_30 (hB : BytesOK) : okL 94 57 T94_30 = true := (okL_c (o94_29 hB)).2.2
theorem o94_31 (hB : BytesOK) : okL 94 60 T94_31 = true := (okL_c (o94_30 hB)).2.2
theorem o94_32 (hB : BytesOK) : okL 94 62 T94_32 = true := (okL_c (o94_31 hB)).2.2
theorem o94_33 (hB : BytesOK) : okL 94 65 T94_33 = true := (okL_c (o94_32 hB)).2.2
theorem o94_34 (hB : BytesOK) : okL 94 67 T94_34 = true := (okL_c (o94_33 hB)).2.2
theorem o94_35 (hB : BytesOK) : okL 94 70 T94_35 = true := (okL_c (o94_34 hB)).2.2
theorem o94_36 (hB : BytesOK) : okL 94 71 T94_36 = true := (okL_c (o94_35 hB)).2.2
theorem o94_37 (hB : BytesOK) : okL 94 72 T94_37 = true := (okL_c (o94_36 hB)).2.2
theorem o94_38 (hB : BytesOK) : okL 94 73 T94_38 = true := (okL_c (o94_37 hB)).2.2
theorem o94_39 (hB : BytesOK) : okL 94 76 T94_39 = true := (okL_c (o94_38 hB)).2.2
theorem o94_40 (hB : BytesOK) : okL 94 77 T94_40 = true := (okL_c (o94_39 hB)).2.2
theorem o94_41 (hB : BytesOK) : okL 94 78 T94_41 = true := (okL_c (o94_40 hB)).2.2
theorem o94_42 (hB : BytesOK) : okL 94 81 T94_42 = true := (okL_c (o94_41 hB)).2.2
theorem o94_43 (hB : BytesOK) : okL 94 84 T94_43 = true := (okL_c (o94_42 hB)).2.2
theorem o94_44 (hB : BytesOK) : okL 94 85 T94_44 = true := (okL_c (o94_43 hB)).2.2
theorem o94_45 (hB : BytesOK) : okL 94 86 T94_45 = true := (okL_c (o94_44 hB)).2.2
theorem o94_46 (hB : BytesOK) : okL 94 88 T94_46 = true := (okL_c (o94_45 hB)).2.2
theorem o94_47 (hB : BytesOK) : okL 94 91 T94_47 = true := (okL_c (o94_46 hB)).2.2
theorem o94_48 (hB : BytesOK) : okL 94 92 T94_48 = true := (okL_c (o94_47 hB)).2.2
theorem o94_49 (hB : BytesOK) : okL 94 95 T94_49 = true := (okL_c (o94_48 hB)).2.2
theorem o94_50 (hB : BytesOK) : okL 94 97 T94_50 = true := (okL_c (o94_49 hB)).2.2
theorem o94_51 (hB : BytesOK) : okL 94 100 T94_51 = true := (okL_c (o94_50 hB)).2.2
theorem o94_52 (hB : BytesOK) : okL 94 103 T94_52 = true := (okL_c (o94_51 hB)).2.2
theorem o94_53 (hB : BytesOK) : okL 94 106 T94_53 = true := (okL_c (o94_52 hB)).2.2
theorem o94_54 (hB : BytesOK) : okL 94 107 T94_54 = true := (okL_c (o94_53 hB)).2.2
theorem o94_55 (hB : BytesOK) : okL 94 110 T94_55 = true := (okL_c (o94_54 hB)).2.2
theorem o94_56 (hB : BytesOK) : okL 94 111 T94_56 = true := (okL_c (o94_55 hB)).2.2
theorem o94_57 (hB : BytesOK) : okL 94 114 T94_57 = true := (okL_c (o94_56 hB)).2.2
theorem o94_58 (hB : BytesOK) : okL 94 116 T94_58 = true := (okL_c (o94_57 hB)).2.2
theorem o94_59 (hB : BytesOK) : okL 94 119 T94_59 = true := (okL_c (o94_58 hB)).2.2
theorem o94_60 (hB : BytesOK) : okL 94 120 T94_60 = true := (okL_c (o94_59 hB)).2.2
theorem ml94 : mml 94 = 5 := by decide +kernel
theorem mr94 : mret 94 = some .boolean := by decide +kernel
theorem mg94 : kGood 94 = true := by decide +kernel

def T95_75 : List Tok := []
def T95_74 : List Tok := (.ireturn, 1, 0, 0) :: T95_75
def T95_73 : List Tok := (.iconst 1, 1, 0, 0) :: T95_74
def T95_72 : List Tok := (.invokevirtual 113, 3, 100, 797) :: T95_73
def T95_71 : List Tok := (.iconst (-1), 1, 0, 0) :: T95_72
def T95_70 : List Tok := (.getfield 18, 3, 450, 411) :: T95_71
def T95_69 : List Tok := (.aload_n 0, 1, 0, 0) :: T95_70
def T95_68 : List Tok := (.ifCond .eq 11, 3, 0, 0) :: T95_69
def T95_67 : List Tok := (.iload_n 2, 1, 0, 0) :: T95_68
def T95_66 : List Tok := (.ireturn, 1, 0, 0) :: T95_67
def T95_65 : List Tok := (.iconst 0, 1, 0, 0) :: T95_66
def T95_64 : List Tok := (.ifCond .ne 5, 3, 0, 0) :: T95_65
def T95_63 : List Tok := (.invokevirtual 162, 3, 96, 801) :: T95_64
def T95_62 : List Tok := (.aload_n 0, 1, 0, 0) :: T95_63
def T95_61 : List Tok := (.goto 12, 3, 0, 0) :: T95_62
def T95_60 : List Tok := (.invokevirtual 37, 3, 84, 682) :: T95_61
def T95_59 : List Tok := (.aload_n 0, 1, 0, 0) :: T95_60
def T95_58 : List Tok := (.invokevirtual 113, 3, 100, 797) :: T95_59
def T95_57 : List Tok := (.bipush (-4), 2, 0, 0) :: T95_58
def T95_56 : List Tok := (.getfield 18, 3, 450, 411) :: T95_57
def T95_55 : List Tok := (.aload_n 0, 1, 0, 0) :: T95_56
def T95_54 : List Tok := (.ifCond .eq 19, 3, 0, 0) :: T95_55
def T95_53 : List Tok := (.invokevirtual 65, 3, 85, 699) :: T95_54
def T95_52 : List Tok := (.ldc 160, 2, 1014, 796) :: T95_53
def T95_51 : List Tok := (.aload_n 0, 1, 0, 0) :: T95_52
def T95_50 : List Tok := (.goto 37, 3, 0, 0) :: T95_51
def T95_49 : List Tok := (.invokevirtual 37, 3, 84, 682) :: T95_50
def T95_48 : List Tok := (.aload_n 0, 1, 0, 0) :: T95_49
def T95_47 : List Tok := (.ireturn, 1, 0, 0) :: T95_48
def T95_46 : List Tok := (.invokevirtual 43, 3, 83, 686) :: T95_47
def T95_45 : List Tok := (.aload_n 0, 1, 0, 0) :: T95_46
def T95_44 : List Tok := (.ifCond .ne 8, 3, 0, 0) :: T95_45
def T95_43 : List Tok := (.invokevirtual 117, 3, 86, 792) :: T95_44
def T95_42 : List Tok := (.bipush 41, 2, 0, 0) :: T95_43
def T95_41 : List Tok := (.aload_n 0, 1, 0, 0) :: T95_42
def T95_40 : List Tok := (.ireturn, 1, 0, 0) :: T95_41
def T95_39 : List Tok := (.iconst 0, 1, 0, 0) :: T95_40
def T95_38 : List Tok := (.ifCond .ne 5, 3, 0, 0) :: T95_39
def T95_37 : List Tok := (.invokevirtual 109, 3, 94, 783) :: T95_38
def T95_36 : List Tok := (.iadd, 1, 0, 0) :: T95_37
def T95_35 : List Tok := (.iconst 1, 1, 0, 0) :: T95_36
def T95_34 : List Tok := (.iload_n 1, 1, 0, 0) :: T95_35
def T95_33 : List Tok := (.aload_n 0, 1, 0, 0) :: T95_34
def T95_32 : List Tok := (.invokevirtual 37, 3, 84, 682) :: T95_33
def T95_31 : List Tok := (.aload_n 0, 1, 0, 0) :: T95_32
def T95_30 : List Tok := (.ireturn, 1, 0, 0) :: T95_31
def T95_29 : List Tok := (.invokevirtual 43, 3, 83, 686) :: T95_30
def T95_28 : List Tok := (.aload_n 0, 1, 0, 0) :: T95_29
def T95_27 : List Tok := (.if_icmp .lt 8, 3, 0, 0) :: T95_28
def T95_26 : List Tok := (.iconst 4, 1, 0, 0) :: T95_27
def T95_25 : List Tok := (.iload_n 1, 1, 0, 0) :: T95_26
def T95_24 : List Tok := (.ifCond .eq 50, 3, 0, 0) :: T95_25
def T95_23 : List Tok := (.invokevirtual 117, 3, 86, 792) :: T95_24
def T95_22 : List Tok := (.bipush 40, 2, 0, 0) :: T95_23
def T95_21 : List Tok := (.aload_n 0, 1, 0, 0) :: T95_22
def T95_20 : List Tok := (.goto (-33), 3, 0, 0) :: T95_21
def T95_19 : List Tok := (.iinc 3 1, 3, 0, 0) :: T95_20
def T95_18 : List Tok := (.invokevirtual 37, 3, 84, 682) :: T95_19
def T95_17 : List Tok := (.aload_n 0, 1, 0, 0) :: T95_18
def T95_16 : List Tok := (.istore_n 2, 1, 0, 0) :: T95_17
def T95_15 : List Tok := (.iconst 0, 1, 0, 0) :: T95_16
def T95_14 : List Tok := (.goto 4, 3, 0, 0) :: T95_15
def T95_13 : List Tok := (.iconst 1, 1, 0, 0) :: T95_14
def T95_12 : List Tok := (.ifCond .ne 7, 3, 0, 0) :: T95_13
def T95_11 : List Tok := (.iload_n 2, 1, 0, 0) :: T95_12
def T95_10 : List Tok := (.ifCond .eq 23, 3, 0, 0) :: T95_11
def T95_9 : List Tok := (.invokevirtual 65, 3, 85, 699) :: T95_10
def T95_8 : List Tok := (.ldc 158, 2, 1013, 791) :: T95_9
def T95_7 : List Tok := (.aload_n 0, 1, 0, 0) :: T95_8
def T95_6 : List Tok := (.if_icmp .ge 32, 3, 0, 0) :: T95_7
def T95_5 : List Tok := (.sipush 220, 3, 0, 0) :: T95_6
def T95_4 : List Tok := (.iload_n 3, 1, 0, 0) :: T95_5
def T95_3 : List Tok := (.istore_n 3, 1, 0, 0) :: T95_4
def T95_2 : List Tok := (.iconst 0, 1, 0, 0) :: T95_3
def T95_1 : List Tok := (.istore_n 2, 1, 0, 0) :: T95_2
def T95_0 : List Tok := (.iconst 0, 1, 0, 0) :: T95_1
theorem o95_0 (hB : BytesOK) : okL 95 0 T95_0 = true := by
  have h := hB.1 95
  rw [show tk 95 = T95_0 from by decide +kernel] at h
  exact h
theorem o95_1 (hB : BytesOK) : okL 95 1 T95_1 = true := (okL_c (o95_0 hB)).2.2
theorem o95_2 (hB : BytesOK) : okL 95 2 T95_2 = true := (okL_c (o95_1 hB)).2.2
theorem o95_3 (hB : BytesOK) : okL 95 3 T95_3 = true := (okL_c (o95_2 hB)).2.2
theorem o95_4 (hB : BytesOK) : okL 95 4 T95_4 = true := (okL_c (o95_3 hB)).2.2
theorem o95_5 (hB : BytesOK) : okL 95 5 T95_5 = true := (okL_c (o95_4 hB)).2.2
theorem o95_6 (hB : BytesOK) : okL 95 8 T95_6 = true := (okL_c (o95_5 hB)).2.2
theorem o95_7 (hB : BytesOK) : okL 95 11 T95_7 = true := (okL_c (o95_6 hB)).2.2
theorem o95_8 (hB : BytesOK) : okL 95 12 T95_8 = true := (okL_c (o95_7 hB)).2.2
theorem o95_9 (hB : BytesOK) : okL 95 14 T95_9 = true := (okL_c (o95_8 hB)).2.2
theorem o95_10 (hB : BytesOK) : okL 95 17 T95_10 = true := (okL_c (o95_9 hB)).2.2
theorem o95_11 (hB : BytesOK) : okL 95 20 T95_11 = true := (okL_c (o95_10 hB)).2.2
theorem o95_12 (hB : BytesOK) : okL 95 21 T95_12 = true := (okL_c (o95_11 hB)).2.2
theorem o95_13 (hB : BytesOK) : okL 95 24 T95_13 = true := (okL_c (o95_12 hB)).2.2
theorem o95_14 (hB : BytesOK) : okL 95 25 T95_14 = true := (okL_c (o95_13 hB)).2.2
theorem o95_15 (hB : BytesOK) : okL 95 28 T95_15 = true := (okL_c (o95_14 hB)).2.2
theorem o95_16 (hB : BytesOK) : okL 95 29 T95_16 = true := (okL_c (o95_15 hB)).2.2
theorem o95_17 (hB : BytesOK) : okL 95 30 T95_17 = true := (okL_c (o95_16 hB)).2.2
theorem o95_18 (hB : BytesOK) : okL 95 31 T95_18 = true := (okL_c (o95_17 hB)).2.2
theorem o95_19 (hB : BytesOK) : okL 95 34 T95_19 = true := (okL_c (o95_18 hB)).2.2
theorem o95_20 (hB : BytesOK) : okL 95 37 T95_20 = true := (okL_c (o95_19 hB)).2.2
theorem o95_21 (hB : BytesOK) : okL 95 40 T95_21 = true := (okL_c (o95_20 hB)).2.2
theorem o95_22 (hB : BytesOK) : okL 95 41 T95_22 = true := (okL_c (o95_21 hB)).2.2
theorem o95_23 (hB : BytesOK) : okL 95 43 T95_23 = true := (okL_c (o95_22 hB)).2.2
theorem o95_24 (hB : BytesOK) : okL 95 46 T95_24 = true := (okL_c (o95_23 hB)).2.2
theorem o95_25 (hB : BytesOK) : okL 95 49 T95_25 = true := (okL_c (o95_24 hB)).2.2
theorem o95_26 (hB : BytesOK) : okL 95 50 T95_26 = true := (okL_c (o95_25 hB)).2.2
theorem o95_27 (hB : BytesOK) : okL 95 51 T95_27 = true := (okL_c (o95_26 hB)).2.2
theorem o95_28 (hB : BytesOK) : okL 95 54 T95_28 = true := (okL_c (o95_27 hB)).2.2
theorem o95_29 (hB : BytesOK) : okL 95 55 T95_29 = true := (okL_c (o95_28 hB)).2.2
theorem o95_30 (hB : BytesOK) : okL 95 58 T95_30 = true := (okL_c (o95_29 hB)).2.2
theorem o95_31 (hB : BytesOK) : okL 95 59 T95_31 = true := (okL_c (o95_30 hB)).2.2
theorem o95_32 (hB : BytesOK) : okL 95 60 T95_32 = true := (okL_c (o95_31 hB)).2.2
theorem o95_33 (hB : BytesOK) : okL 95 63 T95_33 = true := (okL_c (o95_32 hB)).2.2
theorem o95_34 (hB : BytesOK) : okL 95 64 T95_34 = true := (okL_c (o95_33 hB)).2.2
theorem o95_35 (hB : BytesOK) : okL 95 65 T95_35 = true := (okL_c (o95_34 hB)).2.2
theorem o95_36 (hB : BytesOK) : okL 95 66 T95_36 = true := (okL_c (o95_35 hB)).2.2
theorem o95_37 (hB : BytesOK) : okL 95 67 T95_37 = true := (okL_c (o95_36 hB)).2.2
theorem o95_38 (hB : BytesOK) : okL 95 70 T95_38 = true := (okL_c (o95_37 hB)).2.2
theorem o95_39 (hB : BytesOK) : okL 95 73 T95_39 = true := (okL_c (o95_38 hB)).2.2
theorem o95_40 (hB : BytesOK) : okL 95 74 T95_40 = true := (okL_c (o95_39 hB)).2.2
theorem o95_41 (hB : BytesOK) : okL 95 75 T95_41 = true := (okL_c (o95_40 hB)).2.2
theorem o95_42 (hB : BytesOK) : okL 95 76 T95_42 = true := (okL_c (o95_41 hB)).2.2
theorem o95_43 (hB : BytesOK) : okL 95 78 T95_43 = true := (okL_c (o95_42 hB)).2.2
theorem o95_44 (hB : BytesOK) : okL 95 81 T95_44 = true := (okL_c (o95_43 hB)).2.2
theorem o95_45 (hB : BytesOK) : okL 95 84 T95_45 = true := (okL_c (o95_44 hB)).2.2
theorem o95_46 (hB : BytesOK) : okL 95 85 T95_46 = true := (okL_c (o95_45 hB)).2.2
theorem o95_47 (hB : BytesOK) : okL 95 88 T95_47 = true := (okL_c (o95_46 hB)).2.2
theorem o95_48 (hB : BytesOK) : okL 95 89 T95_48 = true := (okL_c (o95_47 hB)).2.2
theorem o95_49 (hB : BytesOK) : okL 95 90 T95_49 = true := (okL_c (o95_48 hB)).2.2
theorem o95_50 (hB : BytesOK) : okL 95 93 T95_50 = true := (okL_c (o95_49 hB)).2.2
theorem o95_51 (hB : BytesOK) : okL 95 96 T95_51 = true := (okL_c (o95_50 hB)).2.2
theorem o95_52 (hB : BytesOK) : okL 95 97 T95_52 = true := (okL_c (o95_51 hB)).2.2
theorem o95_53 (hB : BytesOK) : okL 95 99 T95_53 = true := (okL_c (o95_52 hB)).2.2
theorem o95_54 (hB : BytesOK) : okL 95 102 T95_54 = true := (okL_c (o95_53 hB)).2.2
theorem o95_55 (hB : BytesOK) : okL 95 105 T95_55 = true := (okL_c (o95_54 hB)).2.2
theorem o95_56 (hB : BytesOK) : okL 95 106 T95_56 = true := (okL_c (o95_55 hB)).2.2
theorem o95_57 (hB : BytesOK) : okL 95 109 T95_57 = true := (okL_c (o95_56 hB)).2.2
theorem o95_58 (hB : BytesOK) : okL 95 111 T95_58 = true := (okL_c (o95_57 hB)).2.2
theorem o95_59 (hB : BytesOK) : okL 95 114 T95_59 = true := (okL_c (o95_58 hB)).2.2
theorem o95_60 (hB : BytesOK) : okL 95 115 T95_60 = true := (okL_c (o95_59 hB)).2.2
theorem o95_61 (hB : BytesOK) : okL 95 118 T95_61 = true := (okL_c (o95_60 hB)).2.2
theorem o95_62 (hB : BytesOK) : okL 95 121 T95_62 = true := (okL_c (o95_61 hB)).2.2
theorem o95_63 (hB : BytesOK) : okL 95 122 T95_63 = true := (okL_c (o95_62 hB)).2.2
theorem o95_64 (hB : BytesOK) : okL 95 125 T95_64 = true := (okL_c (o95_63 hB)).2.2
theorem o95_65 (hB : BytesOK) : okL 95 128 T95_65 = true := (okL_c (o95_64 hB)).2.2
theorem o95_66 (hB : BytesOK) : okL 95 129 T95_66 = true := (okL_c (o95_65 hB)).2.2
theorem o95_67 (hB : BytesOK) : okL 95 130 T95_67 = true := (okL_c (o95_66 hB)).2.2
theorem o95_68 (hB : BytesOK) : okL 95 131 T95_68 = true := (okL_c (o95_67 hB)).2.2
theorem o95_69 (hB : BytesOK) : okL 95 134 T95_69 = true := (okL_c (o95_68 hB)).2.2
theorem o95_70 (hB : BytesOK) : okL 95 135 T95_70 = true := (okL_c (o95_69 hB)).2.2
theorem o95_71 (hB : BytesOK) : okL 95 138 T95_71 = true := (okL_c (o95_70 hB)).2.2
theorem o95_72 (hB : BytesOK) : okL 95 139 T95_72 = true := (okL_c (o95_71 hB)).2.2
theorem o95_73 (hB : BytesOK) : okL 95 142 T95_73 = true := (okL_c (o95_72 hB)).2.2
theorem o95_74 (hB : BytesOK) : okL 95 143 T95_74 = true := (okL_c (o95_73 hB)).2.2
theorem ml95 : mml 95 = 4 := by decide +kernel
theorem mr95 : mret 95 = some .boolean := by decide +kernel
theorem mg95 : kGood 95 = true := by decide +kernel

def T96_83 : List Tok := []
def T96_82 : List Tok := (.ireturn, 1, 0, 0) :: T96_83
def T96_81 : List Tok := (.iconst 1, 1, 0, 0) :: T96_82
def T96_80 : List Tok := (.invokevirtual 113, 3, 100, 797) :: T96_81
def T96_79 : List Tok := (.iadd, 1, 0, 0) :: T96_80
def T96_78 : List Tok := (.iload_n 3, 1, 0, 0) :: T96_79
def T96_77 : List Tok := (.iadd, 1, 0, 0) :: T96_78
def T96_76 : List Tok := (.imul, 1, 0, 0) :: T96_77
def T96_75 : List Tok := (.sipush 1000, 3, 0, 0) :: T96_76
def T96_74 : List Tok := (.iload_n 2, 1, 0, 0) :: T96_75
def T96_73 : List Tok := (.imul, 1, 0, 0) :: T96_74
def T96_72 : List Tok := (.sipush 3000, 3, 0, 0) :: T96_73
def T96_71 : List Tok := (.iload_n 1, 1, 0, 0) :: T96_72
def T96_70 : List Tok := (.getfield 18, 3, 450, 411) :: T96_71
def T96_69 : List Tok := (.aload_n 0, 1, 0, 0) :: T96_70
def T96_68 : List Tok := (.ireturn, 1, 0, 0) :: T96_69
def T96_67 : List Tok := (.iconst 0, 1, 0, 0) :: T96_68
def T96_66 : List Tok := (.ifCond .ge 5, 3, 0, 0) :: T96_67
def T96_65 : List Tok := (.iload_n 3, 1, 0, 0) :: T96_66
def T96_64 : List Tok := (.istore_n 3, 1, 0, 0) :: T96_65
def T96_63 : List Tok := (.invokevirtual 90, 3, 88, 772) :: T96_64
def T96_62 : List Tok := (.sipush 999, 3, 0, 0) :: T96_63
def T96_61 : List Tok := (.iconst 0, 1, 0, 0) :: T96_62
def T96_60 : List Tok := (.aload_n 0, 1, 0, 0) :: T96_61
def T96_59 : List Tok := (.invokevirtual 37, 3, 84, 682) :: T96_60
def T96_58 : List Tok := (.aload_n 0, 1, 0, 0) :: T96_59
def T96_57 : List Tok := (.ireturn, 1, 0, 0) :: T96_58
def T96_56 : List Tok := (.invokevirtual 43, 3, 83, 686) :: T96_57
def T96_55 : List Tok := (.aload_n 0, 1, 0, 0) :: T96_56
def T96_54 : List Tok := (.ifCond .ge 8, 3, 0, 0) :: T96_55
def T96_53 : List Tok := (.iload_n 2, 1, 0, 0) :: T96_54
def T96_52 : List Tok := (.istore_n 2, 1, 0, 0) :: T96_53
def T96_51 : List Tok := (.iconst (-1), 1, 0, 0) :: T96_52
def T96_50 : List Tok := (.goto 4, 3, 0, 0) :: T96_51
def T96_49 : List Tok := (.iconst 2, 1, 0, 0) :: T96_50
def T96_48 : List Tok := (.ifCond .eq 7, 3, 0, 0) :: T96_49
def T96_47 : List Tok := (.invokevirtual 117, 3, 86, 792) :: T96_48
def T96_46 : List Tok := (.bipush 62, 2, 0, 0) :: T96_47
def T96_45 : List Tok := (.aload_n 0, 1, 0, 0) :: T96_46
def T96_44 : List Tok := (.goto 17, 3, 0, 0) :: T96_45
def T96_43 : List Tok := (.iconst 1, 1, 0, 0) :: T96_44
def T96_42 : List Tok := (.ifCond .eq 7, 3, 0, 0) :: T96_43
def T96_41 : List Tok := (.invokevirtual 117, 3, 86, 792) :: T96_42
def T96_40 : List Tok := (.bipush 61, 2, 0, 0) :: T96_41
def T96_39 : List Tok := (.aload_n 0, 1, 0, 0) :: T96_40
def T96_38 : List Tok := (.goto 30, 3, 0, 0) :: T96_39
def T96_37 : List Tok := (.iconst 0, 1, 0, 0) :: T96_38
def T96_36 : List Tok := (.ifCond .eq 7, 3, 0, 0) :: T96_37
def T96_35 : List Tok := (.invokevirtual 117, 3, 86, 792) :: T96_36
def T96_34 : List Tok := (.bipush 60, 2, 0, 0) :: T96_35
def T96_33 : List Tok := (.aload_n 0, 1, 0, 0) :: T96_34
def T96_32 : List Tok := (.invokevirtual 37, 3, 84, 682) :: T96_33
def T96_31 : List Tok := (.aload_n 0, 1, 0, 0) :: T96_32
def T96_30 : List Tok := (.ireturn, 1, 0, 0) :: T96_31
def T96_29 : List Tok := (.invokevirtual 43, 3, 83, 686) :: T96_30
def T96_28 : List Tok := (.aload_n 0, 1, 0, 0) :: T96_29
def T96_27 : List Tok := (.ifCond .ge 8, 3, 0, 0) :: T96_28
def T96_26 : List Tok := (.iload_n 1, 1, 0, 0) :: T96_27
def T96_25 : List Tok := (.istore_n 1, 1, 0, 0) :: T96_26
def T96_24 : List Tok := (.iconst (-1), 1, 0, 0) :: T96_25
def T96_23 : List Tok := (.goto 4, 3, 0, 0) :: T96_24
def T96_22 : List Tok := (.iconst 3, 1, 0, 0) :: T96_23
def T96_21 : List Tok := (.ifCond .eq 7, 3, 0, 0) :: T96_22
def T96_20 : List Tok := (.invokevirtual 65, 3, 85, 699) :: T96_21
def T96_19 : List Tok := (.ldc 169, 2, 1017, 807) :: T96_20
def T96_18 : List Tok := (.aload_n 0, 1, 0, 0) :: T96_19
def T96_17 : List Tok := (.goto 17, 3, 0, 0) :: T96_18
def T96_16 : List Tok := (.iconst 2, 1, 0, 0) :: T96_17
def T96_15 : List Tok := (.ifCond .eq 7, 3, 0, 0) :: T96_16
def T96_14 : List Tok := (.invokevirtual 65, 3, 85, 699) :: T96_15
def T96_13 : List Tok := (.ldc 75, 2, 1003, 753) :: T96_14
def T96_12 : List Tok := (.aload_n 0, 1, 0, 0) :: T96_13
def T96_11 : List Tok := (.goto 30, 3, 0, 0) :: T96_12
def T96_10 : List Tok := (.iconst 1, 1, 0, 0) :: T96_11
def T96_9 : List Tok := (.ifCond .eq 7, 3, 0, 0) :: T96_10
def T96_8 : List Tok := (.invokevirtual 65, 3, 85, 699) :: T96_9
def T96_7 : List Tok := (.ldc 167, 2, 1016, 806) :: T96_8
def T96_6 : List Tok := (.aload_n 0, 1, 0, 0) :: T96_7
def T96_5 : List Tok := (.goto 43, 3, 0, 0) :: T96_6
def T96_4 : List Tok := (.iconst 0, 1, 0, 0) :: T96_5
def T96_3 : List Tok := (.ifCond .eq 7, 3, 0, 0) :: T96_4
def T96_2 : List Tok := (.invokevirtual 65, 3, 85, 699) :: T96_3
def T96_1 : List Tok := (.ldc 165, 2, 1015, 805) :: T96_2
def T96_0 : List Tok := (.aload_n 0, 1, 0, 0) :: T96_1
theorem o96_0 (hB : BytesOK) : okL 96 0 T96_0 = true := by
  have h := hB.1 96
  rw [show tk 96 = T96_0 from by decide +kernel] at h
  exact h
theorem o96_1 (hB : BytesOK) : okL 96 1 T96_1 = true := (okL_c (o96_0 hB)).2.2
theorem o96_2 (hB : BytesOK) : okL 96 3 T96_2 = true := (okL_c (o96_1 hB)).2.2
theorem o96_3 (hB : BytesOK) : okL 96 6 T96_3 = true := (okL_c (o96_2 hB)).2.2
theorem o96_4 (hB : BytesOK) : okL 96 9 T96_4 = true := (okL_c (o96_3 hB)).2.2
theorem o96_5 (hB : BytesOK) : okL 96 10 T96_5 = true := (okL_c (o96_4 hB)).2.2
theorem o96_6 (hB : BytesOK) : okL 96 13 T96_6 = true := (okL_c (o96_5 hB)).2.2
theorem o96_7 (hB : BytesOK) : okL 96 14 T96_7 = true := (okL_c (o96_6 hB)).2.2
theorem o96_8 (hB : BytesOK) : okL 96 16 T96_8 = true := (okL_c (o96_7 hB)).2.2
theorem o96_9 (hB : BytesOK) : okL 96 19 T96_9 = true := (okL_c (o96_8 hB)).2.2
theorem o96_10 (hB : BytesOK) : okL 96 22 T96_10 = true := (okL_c (o96_9 hB)).2.2
theorem o96_11 (hB : BytesOK) : okL 96 23 T96_11 = true := (okL_c (o96_10 hB)).2.2
theorem o96_12 (hB : BytesOK) : okL 96 26 T96_12 = true := (okL_c (o96_11 hB)).2.2
theorem o96_13 (hB : BytesOK) : okL 96 27 T96_13 = true := (okL_c (o96_12 hB)).2.2
theorem o96_14 (hB : BytesOK) : okL 96 29 T96_14 = true := (okL_c (o96_13 hB)).2.2
theorem o96_15 (hB : BytesOK) : okL 96 32 T96_15 = true := (okL_c (o96_14 hB)).2.2
theorem o96_16 (hB : BytesOK) : okL 96 35 T96_16 = true := (okL_c (o96_15 hB)).2.2
theorem o96_17 (hB : BytesOK) : okL 96 36 T96_17 = true := (okL_c (o96_16 hB)).2.2
theorem o96_18 (hB : BytesOK) : okL 96 39 T96_18 = true := (okL_c (o96_17 hB)).2.2
theorem o96_19 (hB : BytesOK) : okL 96 40 T96_19 = true := (okL_c (o96_18 hB)).2.2
theorem o96_20 (hB : BytesOK) : okL 96 42 T96_20 = true := (okL_c (o96_19 hB)).2.2
theorem o96_21 (hB : BytesOK) : okL 96 45 T96_21 = true := (okL_c (o96_20 hB)).2.2
theorem o96_22 (hB : BytesOK) : okL 96 48 T96_22 = true := (okL_c (o96_21 hB)).2.2
theorem o96_23 (hB : BytesOK) : okL 96 49 T96_23 = true := (okL_c (o96_22 hB)).2.2
theorem o96_24 (hB : BytesOK) : okL 96 52 T96_24 = true := (okL_c (o96_23 hB)).2.2
theorem o96_25 (hB : BytesOK) : okL 96 53 T96_25 = true := (okL_c (o96_24 hB)).2.2
theorem o96_26 (hB : BytesOK) : okL 96 54 T96_26 = true := (okL_c (o96_25 hB)).2.2
theorem o96_27 (hB : BytesOK) : okL 96 55 T96_27 = true := (okL_c (o96_26 hB)).2.2
theorem o96_28 (hB : BytesOK) : okL 96 58 T96_28 = true := (okL_c (o96_27 hB)).2.2
theorem o96_29 (hB : BytesOK) : okL 96 59 T96_29 = true := (okL_c (o96_28 hB)).2.2
theorem o96_30 (hB : BytesOK) : okL 96 62 T96_30 = true := (okL_c (o96_29 hB)).2.2
theorem o96_31 (hB : BytesOK) : okL 96 63 T96_31 = true := (okL_c (o96_30 hB)).2.2
theorem o96_32 (hB : BytesOK) : okL 96 64 T96_32 = true := (okL_c (o96_31 hB)).2.2
theorem o96_33 (hB : BytesOK) : okL 96 67 T96_33 = true := (okL_c (o96_32 hB)).2.2
theorem o96_34 (hB : BytesOK) : okL 96 68 T96_34 = true := (okL_c (o96_33 hB)).2.2
theorem o96_35 (hB : BytesOK) : okL 96 70 T96_35 = true := (okL_c (o96_34 hB)).2.2
theorem o96_36 (hB : BytesOK) : okL 96 73 T96_36 = true := (okL_c (o96_35 hB)).2.2
theorem o96_37 (hB : BytesOK) : okL 96 76 T96_37 = true := (okL_c (o96_36 hB)).2.2
theorem o96_38 (hB : BytesOK) : okL 96 77 T96_38 = true := (okL_c (o96_37 hB)).2.2
theorem o96_39 (hB : BytesOK) : okL 96 80 T96_39 = true := (okL_c (o96_38 hB)).2.2
theorem o96_40 (hB : BytesOK) : okL 96 81 T96_40 = true := (okL_c (o96_39 hB)).2.2
theorem o96_41 (hB : BytesOK) : okL 96 83 T96_41 = true := (okL_c (o96_40 hB)).2.2
theorem o96_42 (hB : BytesOK) : okL 96 86 T96_42 = true := (okL_c (o96_41 hB)).2.2
theorem o96_43 (hB : BytesOK) : okL 96 89 T96_43 = true := (okL_c (o96_42 hB)).2.2
theorem o96_44 (hB : BytesOK) : okL 96 90 T96_44 = true := (okL_c (o96_43 hB)).2.2
theorem o96_45 (hB : BytesOK) : okL 96 93 T96_45 = true := (okL_c (o96_44 hB)).2.2
theorem o96_46 (hB : BytesOK) : okL 96 94 T96_46 = true := (okL_c (o96_45 hB)).2.2
theorem o96_47 (hB : BytesOK) : okL 96 96 T96_47 = true := (okL_c (o96_46 hB)).2.2
theorem o96_48 (hB : BytesOK) : okL 96 99 T96_48 = true := (okL_c (o96_47 hB)).2.2
theorem o96_49 (hB : BytesOK) : okL 96 102 T96_49 = true := (okL_c (o96_48 hB)).2.2
theorem o96_50 (hB : BytesOK) : okL 96 103 T96_50 = true := (okL_c (o96_49 hB)).2.2
theorem o96_51 (hB : BytesOK) : okL 96 106 T96_51 = true := (okL_c (o96_50 hB)).2.2
theorem o96_52 (hB : BytesOK) : okL 96 107 T96_52 = true := (okL_c (o96_51 hB)).2.2
theorem o96_53 (hB : BytesOK) : okL 96 108 T96_53 = true := (okL_c (o96_52 hB)).2.2
theorem o96_54 (hB : BytesOK) : okL 96 109 T96_54 = true := (okL_c (o96_53 hB)).2.2
theorem o96_55 (hB : BytesOK) : okL 96 112 T96_55 = true := (okL_c (o96_54 hB)).2.2
theorem o96_56 (hB : BytesOK) : okL 96 113 T96_56 = true := (okL_c (o96_55 hB)).2.2
theorem o96_57 (hB : BytesOK) : okL 96 116 T96_57 = true := (okL_c (o96_56 hB)).2.2
theorem o96_58 (hB : BytesOK) : okL 96 117 T96_58 = true := (okL_c (o96_57 hB)).2.2
theorem o96_59 (hB : BytesOK) : okL 96 118 T96_59 = true := (okL_c (o96_58 hB)).2.2
theorem o96_60 (hB : BytesOK) : okL 96 121 T96_60 = true := (okL_c (o96_59 hB)).2.2
theorem o96_61 (hB : BytesOK) : okL 96 122 T96_61 = true := (okL_c (o96_60 hB)).2.2
theorem o96_62 (hB : BytesOK) : okL 96 123 T96_62 = true := (okL_c (o96_61 hB)).2.2
theorem o96_63 (hB : BytesOK) : okL 96 126 T96_63 = true := (okL_c (o96_62 hB)).2.2
theorem o96_64 (hB : BytesOK) : okL 96 129 T96_64 = true := (okL_c (o96_63 hB)).2.2
theorem o96_65 (hB : BytesOK) : okL 96 130 T96_65 = true := (okL_c (o96_64 hB)).2.2
theorem o96_66 (hB : BytesOK) : okL 96 131 T96_66 = true := (okL_c (o96_65 hB)).2.2
theorem o96_67 (hB : BytesOK) : okL 96 134 T96_67 = true := (okL_c (o96_66 hB)).2.2
theorem o96_68 (hB : BytesOK) : okL 96 135 T96_68 = true := (okL_c (o96_67 hB)).2.2
theorem o96_69 (hB : BytesOK) : okL 96 136 T96_69 = true := (okL_c (o96_68 hB)).2.2
theorem o96_70 (hB : BytesOK) : okL 96 137 T96_70 = true := (okL_c (o96_69 hB)).2.2
theorem o96_71 (hB : BytesOK) : okL 96 140 T96_71 = true := (okL_c (o96_70 hB)).2.2
theorem o96_72 (hB : BytesOK) : okL 96 141 T96_72 = true := (okL_c (o96_71 hB)).2.2
theorem o96_73 (hB : BytesOK) : okL 96 144 T96_73 = true := (okL_c (o96_72 hB)).2.2
theorem o96_74 (hB : BytesOK) : okL 96 145 T96_74 = true := (okL_c (o96_73 hB)).2.2
theorem o96_75 (hB : BytesOK) : okL 96 146 T96_75 = true := (okL_c (o96_74 hB)).2.2
theorem o96_76 (hB : BytesOK) : okL 96 149 T96_76 = true := (okL_c (o96_75 hB)).2.2
theorem o96_77 (hB : BytesOK) : okL 96 150 T96_77 = true := (okL_c (o96_76 hB)).2.2
theorem o96_78 (hB : BytesOK) : okL 96 151 T96_78 = true := (okL_c (o96_77 hB)).2.2
theorem o96_79 (hB : BytesOK) : okL 96 152 T96_79 = true := (okL_c (o96_78 hB)).2.2
theorem o96_80 (hB : BytesOK) : okL 96 153 T96_80 = true := (okL_c (o96_79 hB)).2.2
theorem o96_81 (hB : BytesOK) : okL 96 156 T96_81 = true := (okL_c (o96_80 hB)).2.2
theorem o96_82 (hB : BytesOK) : okL 96 157 T96_82 = true := (okL_c (o96_81 hB)).2.2
theorem ml96 : mml 96 = 4 := by decide +kernel
theorem mr96 : mret 96 = some .boolean := by decide +kernel
theorem mg96 : kGood 96 = true := by decide +kernel

def T98_39 : List Tok := []
def T98_38 : List Tok := (.return_, 1, 0, 0) :: T98_39
def T98_37 : List Tok := (.putfield 49, 3, 523, 334) :: T98_38
def T98_36 : List Tok := (.iconst 0, 1, 0, 0) :: T98_37
def T98_35 : List Tok := (.aload_n 0, 1, 0, 0) :: T98_36
def T98_34 : List Tok := (.putfield 46, 3, 522, 331) :: T98_35
def T98_33 : List Tok := (.iconst 0, 1, 0, 0) :: T98_34
def T98_32 : List Tok := (.aload_n 0, 1, 0, 0) :: T98_33
def T98_31 : List Tok := (.goto (-16), 3, 0, 0) :: T98_32
def T98_30 : List Tok := (.iinc 1 1, 3, 0, 0) :: T98_31
def T98_29 : List Tok := (.iastore, 1, 0, 0) :: T98_30
def T98_28 : List Tok := (.bipush 100, 2, 0, 0) :: T98_29
def T98_27 : List Tok := (.iload_n 1, 1, 0, 0) :: T98_28
def T98_26 : List Tok := (.getfield 28, 3, 521, 328) :: T98_27
def T98_25 : List Tok := (.aload_n 0, 1, 0, 0) :: T98_26
def T98_24 : List Tok := (.if_icmp .ge 17, 3, 0, 0) :: T98_25
def T98_23 : List Tok := (.iconst 4, 1, 0, 0) :: T98_24
def T98_22 : List Tok := (.iload_n 1, 1, 0, 0) :: T98_23
def T98_21 : List Tok := (.istore_n 1, 1, 0, 0) :: T98_22
def T98_20 : List Tok := (.iconst 0, 1, 0, 0) :: T98_21
def T98_19 : List Tok := (.putfield 24, 3, 520, 325) :: T98_20
def T98_18 : List Tok := (.iconst (-1), 1, 0, 0) :: T98_19
def T98_17 : List Tok := (.aload_n 0, 1, 0, 0) :: T98_18
def T98_16 : List Tok := (.iastore, 1, 0, 0) :: T98_17
def T98_15 : List Tok := (.iconst 0, 1, 0, 0) :: T98_16
def T98_14 : List Tok := (.iconst 0, 1, 0, 0) :: T98_15
def T98_13 : List Tok := (.getfield 18, 3, 518, 321) :: T98_14
def T98_12 : List Tok := (.aload_n 0, 1, 0, 0) :: T98_13
def T98_11 : List Tok := (.putfield 43, 3, 517, 319) :: T98_12
def T98_10 : List Tok := (.iconst 0, 1, 0, 0) :: T98_11
def T98_9 : List Tok := (.aload_n 0, 1, 0, 0) :: T98_10
def T98_8 : List Tok := (.putfield 40, 3, 516, 316) :: T98_9
def T98_7 : List Tok := (.iconst 0, 1, 0, 0) :: T98_8
def T98_6 : List Tok := (.aload_n 0, 1, 0, 0) :: T98_7
def T98_5 : List Tok := (.putfield 37, 3, 513, 313) :: T98_6
def T98_4 : List Tok := (.iconst 0, 1, 0, 0) :: T98_5
def T98_3 : List Tok := (.aload_n 0, 1, 0, 0) :: T98_4
def T98_2 : List Tok := (.putfield 34, 3, 512, 311) :: T98_3
def T98_1 : List Tok := (.iconst 0, 1, 0, 0) :: T98_2
def T98_0 : List Tok := (.aload_n 0, 1, 0, 0) :: T98_1
theorem o98_0 (hB : BytesOK) : okL 98 0 T98_0 = true := by
  have h := hB.1 98
  rw [show tk 98 = T98_0 from by decide +kernel] at h
  exact h
theorem o98_1 (hB : BytesOK) : okL 98 1 T98_1 = true := (okL_c (o98_0 hB)).2.2
theorem o98_2 (hB : BytesOK) : okL 98 2 T98_2 = true := (okL_c (o98_1 hB)).2.2
theorem o98_3 (hB : BytesOK) : okL 98 5 T98_3 = true := (okL_c (o98_2 hB)).2.2
theorem o98_4 (hB : BytesOK) : okL 98 6 T98_4 = true := (okL_c (o98_3 hB)).2.2
theorem o98_5 (hB : BytesOK) : okL 98 7 T98_5 = true := (okL_c (o98_4 hB)).2.2
theorem o98_6 (hB : BytesOK) : okL 98 10 T98_6 = true := (okL_c (o98_5 hB)).2.2
theorem o98_7 (hB : BytesOK) : okL 98 11 T98_7 = true := (okL_c (o98_6 hB)).2.2
theorem o98_8 (hB : BytesOK) : okL 98 12 T98_8 = true := (okL_c (o98_7 hB)).2.2
theorem o98_9 (hB : BytesOK) : okL 98 15 T98_9 = true := (okL_c (o98_8 hB)).2.2
theorem o98_10 (hB : BytesOK) : okL 98 16 T98_10 = true := (okL_c (o98_9 hB)).2.2
theorem o98_11 (hB : BytesOK) : okL 98 17 T98_11 = true := (okL_c (o98_10 hB)).2.2
theorem o98_12 (hB : BytesOK) : okL 98 20 T98_12 = true := (okL_c (o98_11 hB)).2.2
theorem o98_13 (hB : BytesOK) : okL 98 21 T98_13 = true := (okL_c (o98_12 hB)).2.2
theorem o98_14 (hB : BytesOK) : okL 98 24 T98_14 = true := (okL_c (o98_13 hB)).2.2
theorem o98_15 (hB : BytesOK) : okL 98 25 T98_15 = true := (okL_c (o98_14 hB)).2.2
theorem o98_16 (hB : BytesOK) : okL 98 26 T98_16 = true := (okL_c (o98_15 hB)).2.2
theorem o98_17 (hB : BytesOK) : okL 98 27 T98_17 = true := (okL_c (o98_16 hB)).2.2
theorem o98_18 (hB : BytesOK) : okL 98 28 T98_18 = true := (okL_c (o98_17 hB)).2.2
theorem o98_19 (hB : BytesOK) : okL 98 29 T98_19 = true := (okL_c (o98_18 hB)).2.2
theorem o98_20 (hB : BytesOK) : okL 98 32 T98_20 = true := (okL_c (o98_19 hB)).2.2
theorem o98_21 (hB : BytesOK) : okL 98 33 T98_21 = true := (okL_c (o98_20 hB)).2.2
theorem o98_22 (hB : BytesOK) : okL 98 34 T98_22 = true := (okL_c (o98_21 hB)).2.2
theorem o98_23 (hB : BytesOK) : okL 98 35 T98_23 = true := (okL_c (o98_22 hB)).2.2
theorem o98_24 (hB : BytesOK) : okL 98 36 T98_24 = true := (okL_c (o98_23 hB)).2.2
theorem o98_25 (hB : BytesOK) : okL 98 39 T98_25 = true := (okL_c (o98_24 hB)).2.2
theorem o98_26 (hB : BytesOK) : okL 98 40 T98_26 = true := (okL_c (o98_25 hB)).2.2
theorem o98_27 (hB : BytesOK) : okL 98 43 T98_27 = true := (okL_c (o98_26 hB)).2.2
theorem o98_28 (hB : BytesOK) : okL 98 44 T98_28 = true := (okL_c (o98_27 hB)).2.2
theorem o98_29 (hB : BytesOK) : okL 98 46 T98_29 = true := (okL_c (o98_28 hB)).2.2
theorem o98_30 (hB : BytesOK) : okL 98 47 T98_30 = true := (okL_c (o98_29 hB)).2.2
theorem o98_31 (hB : BytesOK) : okL 98 50 T98_31 = true := (okL_c (o98_30 hB)).2.2
theorem o98_32 (hB : BytesOK) : okL 98 53 T98_32 = true := (okL_c (o98_31 hB)).2.2
theorem o98_33 (hB : BytesOK) : okL 98 54 T98_33 = true := (okL_c (o98_32 hB)).2.2
theorem o98_34 (hB : BytesOK) : okL 98 55 T98_34 = true := (okL_c (o98_33 hB)).2.2
theorem o98_35 (hB : BytesOK) : okL 98 58 T98_35 = true := (okL_c (o98_34 hB)).2.2
theorem o98_36 (hB : BytesOK) : okL 98 59 T98_36 = true := (okL_c (o98_35 hB)).2.2
theorem o98_37 (hB : BytesOK) : okL 98 60 T98_37 = true := (okL_c (o98_36 hB)).2.2
theorem o98_38 (hB : BytesOK) : okL 98 63 T98_38 = true := (okL_c (o98_37 hB)).2.2
theorem ml98 : mml 98 = 2 := by decide +kernel
theorem mr98 : mret 98 = none := by decide +kernel
theorem mg98 : kGood 98 = true := by decide +kernel

def T99_24 : List Tok := []
def T99_23 : List Tok := (.return_, 1, 0, 0) :: T99_24
def T99_22 : List Tok := (.putfield 37, 3, 513, 313) :: T99_23
def T99_21 : List Tok := (.iadd, 1, 0, 0) :: T99_22
def T99_20 : List Tok := (.iconst 1, 1, 0, 0) :: T99_21
def T99_19 : List Tok := (.getfield 37, 3, 513, 313) :: T99_20
def T99_18 : List Tok := (.dup, 1, 0, 0) :: T99_19
def T99_17 : List Tok := (.aload_n 0, 1, 0, 0) :: T99_18
def T99_16 : List Tok := (.iastore, 1, 0, 0) :: T99_17
def T99_15 : List Tok := (.iload_n 2, 1, 0, 0) :: T99_16
def T99_14 : List Tok := (.getfield 37, 3, 513, 313) :: T99_15
def T99_13 : List Tok := (.aload_n 0, 1, 0, 0) :: T99_14
def T99_12 : List Tok := (.getfield 15, 3, 515, 315) :: T99_13
def T99_11 : List Tok := (.aload_n 0, 1, 0, 0) :: T99_12
def T99_10 : List Tok := (.iastore, 1, 0, 0) :: T99_11
def T99_9 : List Tok := (.iload_n 1, 1, 0, 0) :: T99_10
def T99_8 : List Tok := (.getfield 37, 3, 513, 313) :: T99_9
def T99_7 : List Tok := (.aload_n 0, 1, 0, 0) :: T99_8
def T99_6 : List Tok := (.getfield 9, 3, 514, 314) :: T99_7
def T99_5 : List Tok := (.aload_n 0, 1, 0, 0) :: T99_6
def T99_4 : List Tok := (.return_, 1, 0, 0) :: T99_5
def T99_3 : List Tok := (.if_icmp .lt 4, 3, 0, 0) :: T99_4
def T99_2 : List Tok := (.bipush 9, 2, 0, 0) :: T99_3
def T99_1 : List Tok := (.getfield 37, 3, 513, 313) :: T99_2
def T99_0 : List Tok := (.aload_n 0, 1, 0, 0) :: T99_1
theorem o99_0 (hB : BytesOK) : okL 99 0 T99_0 = true := by
  have h := hB.1 99
  rw [show tk 99 = T99_0 from by decide +kernel] at h
  exact h
theorem o99_1 (hB : BytesOK) : okL 99 1 T99_1 = true := (okL_c (o99_0 hB)).2.2
theorem o99_2 (hB : BytesOK) : okL 99 4 T99_2 = true := (okL_c (o99_1 hB)).2.2
theorem o99_3 (hB : BytesOK) : okL 99 6 T99_3 = true := (okL_c (o99_2 hB)).2.2
theorem o99_4 (hB : BytesOK) : okL 99 9 T99_4 = true := (okL_c (o99_3 hB)).2.2
theorem o99_5 (hB : BytesOK) : okL 99 10 T99_5 = true := (okL_c (o99_4 hB)).2.2
theorem o99_6 (hB : BytesOK) : okL 99 11 T99_6 = true := (okL_c (o99_5 hB)).2.2
theorem o99_7 (hB : BytesOK) : okL 99 14 T99_7 = true := (okL_c (o99_6 hB)).2.2
theorem o99_8 (hB : BytesOK) : okL 99 15 T99_8 = true := (okL_c (o99_7 hB)).2.2
theorem o99_9 (hB : BytesOK) : okL 99 18 T99_9 = true := (okL_c (o99_8 hB)).2.2
theorem o99_10 (hB : BytesOK) : okL 99 19 T99_10 = true := (okL_c (o99_9 hB)).2.2
theorem o99_11 (hB : BytesOK) : okL 99 20 T99_11 = true := (okL_c (o99_10 hB)).2.2
theorem o99_12 (hB : BytesOK) : okL 99 21 T99_12 = true := (okL_c (o99_11 hB)).2.2
theorem o99_13 (hB : BytesOK) : okL 99 24 T99_13 = true := (okL_c (o99_12 hB)).2.2
theorem o99_14 (hB : BytesOK) : okL 99 25 T99_14 = true := (okL_c (o99_13 hB)).2.2
theorem o99_15 (hB : BytesOK) : okL 99 28 T99_15 = true := (okL_c (o99_14 hB)).2.2
theorem o99_16 (hB : BytesOK) : okL 99 29 T99_16 = true := (okL_c (o99_15 hB)).2.2
theorem o99_17 (hB : BytesOK) : okL 99 30 T99_17 = true := (okL_c (o99_16 hB)).2.2
theorem o99_18 (hB : BytesOK) : okL 99 31 T99_18 = true := (okL_c (o99_17 hB)).2.2
theorem o99_19 (hB : BytesOK) : okL 99 32 T99_19 = true := (okL_c (o99_18 hB)).2.2
theorem o99_20 (hB : BytesOK) : okL 99 35 T99_20 = true := (okL_c (o99_19 hB)).2.2
theorem o99_21 (hB : BytesOK) : okL 99 36 T99_21 = true := (okL_c (o99_20 hB)).2.2
theorem o99_22 (hB : BytesOK) : okL 99 37 T99_22 = true := (okL_c (o99_21 hB)).2.2
theorem o99_23 (hB : BytesOK) : okL 99 40 T99_23 = true := (okL_c (o99_22 hB)).2.2
theorem ml99 : mml 99 = 3 := by decide +kernel
theorem mr99 : mret 99 = none := by decide +kernel
theorem mg99 : kGood 99 = true := by decide +kernel

def T100_18 : List Tok := []
def T100_17 : List Tok := (.return_, 1, 0, 0) :: T100_18
def T100_16 : List Tok := (.putfield 49, 3, 523, 334) :: T100_17
def T100_15 : List Tok := (.iadd, 1, 0, 0) :: T100_16
def T100_14 : List Tok := (.iconst 1, 1, 0, 0) :: T100_15
def T100_13 : List Tok := (.getfield 49, 3, 523, 334) :: T100_14
def T100_12 : List Tok := (.dup, 1, 0, 0) :: T100_13
def T100_11 : List Tok := (.aload_n 0, 1, 0, 0) :: T100_12
def T100_10 : List Tok := (.iastore, 1, 0, 0) :: T100_11
def T100_9 : List Tok := (.iload_n 1, 1, 0, 0) :: T100_10
def T100_8 : List Tok := (.getfield 49, 3, 523, 334) :: T100_9
def T100_7 : List Tok := (.aload_n 0, 1, 0, 0) :: T100_8
def T100_6 : List Tok := (.getfield 31, 3, 524, 336) :: T100_7
def T100_5 : List Tok := (.aload_n 0, 1, 0, 0) :: T100_6
def T100_4 : List Tok := (.return_, 1, 0, 0) :: T100_5
def T100_3 : List Tok := (.if_icmp .lt 4, 3, 0, 0) :: T100_4
def T100_2 : List Tok := (.sipush 220, 3, 0, 0) :: T100_3
def T100_1 : List Tok := (.getfield 49, 3, 523, 334) :: T100_2
def T100_0 : List Tok := (.aload_n 0, 1, 0, 0) :: T100_1
theorem o100_0 (hB : BytesOK) : okL 100 0 T100_0 = true := by
  have h := hB.1 100
  rw [show tk 100 = T100_0 from by decide +kernel] at h
  exact h
theorem o100_1 (hB : BytesOK) : okL 100 1 T100_1 = true := (okL_c (o100_0 hB)).2.2
theorem o100_2 (hB : BytesOK) : okL 100 4 T100_2 = true := (okL_c (o100_1 hB)).2.2
theorem o100_3 (hB : BytesOK) : okL 100 7 T100_3 = true := (okL_c (o100_2 hB)).2.2
theorem o100_4 (hB : BytesOK) : okL 100 10 T100_4 = true := (okL_c (o100_3 hB)).2.2
theorem o100_5 (hB : BytesOK) : okL 100 11 T100_5 = true := (okL_c (o100_4 hB)).2.2
theorem o100_6 (hB : BytesOK) : okL 100 12 T100_6 = true := (okL_c (o100_5 hB)).2.2
theorem o100_7 (hB : BytesOK) : okL 100 15 T100_7 = true := (okL_c (o100_6 hB)).2.2
theorem o100_8 (hB : BytesOK) : okL 100 16 T100_8 = true := (okL_c (o100_7 hB)).2.2
theorem o100_9 (hB : BytesOK) : okL 100 19 T100_9 = true := (okL_c (o100_8 hB)).2.2
theorem o100_10 (hB : BytesOK) : okL 100 20 T100_10 = true := (okL_c (o100_9 hB)).2.2
theorem o100_11 (hB : BytesOK) : okL 100 21 T100_11 = true := (okL_c (o100_10 hB)).2.2
theorem o100_12 (hB : BytesOK) : okL 100 22 T100_12 = true := (okL_c (o100_11 hB)).2.2
theorem o100_13 (hB : BytesOK) : okL 100 23 T100_13 = true := (okL_c (o100_12 hB)).2.2
theorem o100_14 (hB : BytesOK) : okL 100 26 T100_14 = true := (okL_c (o100_13 hB)).2.2
theorem o100_15 (hB : BytesOK) : okL 100 27 T100_15 = true := (okL_c (o100_14 hB)).2.2
theorem o100_16 (hB : BytesOK) : okL 100 28 T100_16 = true := (okL_c (o100_15 hB)).2.2
theorem o100_17 (hB : BytesOK) : okL 100 31 T100_17 = true := (okL_c (o100_16 hB)).2.2
theorem ml100 : mml 100 = 2 := by decide +kernel
theorem mr100 : mret 100 = none := by decide +kernel
theorem mg100 : kGood 100 = true := by decide +kernel

def T101_45 : List Tok := []
def T101_44 : List Tok := (.ireturn, 1, 0, 0) :: T101_45
def T101_43 : List Tok := (.iconst (-1), 1, 0, 0) :: T101_44
def T101_42 : List Tok := (.ireturn, 1, 0, 0) :: T101_43
def T101_41 : List Tok := (.iaload, 1, 0, 0) :: T101_42
def T101_40 : List Tok := (.isub, 1, 0, 0) :: T101_41
def T101_39 : List Tok := (.bipush 30, 2, 0, 0) :: T101_40
def T101_38 : List Tok := (.iload_n 1, 1, 0, 0) :: T101_39
def T101_37 : List Tok := (.getfield 15, 3, 515, 315) :: T101_38
def T101_36 : List Tok := (.aload_n 0, 1, 0, 0) :: T101_37
def T101_35 : List Tok := (.if_icmp .ge 13, 3, 0, 0) :: T101_36
def T101_34 : List Tok := (.iadd, 1, 0, 0) :: T101_35
def T101_33 : List Tok := (.getfield 37, 3, 513, 313) :: T101_34
def T101_32 : List Tok := (.aload_n 0, 1, 0, 0) :: T101_33
def T101_31 : List Tok := (.bipush 30, 2, 0, 0) :: T101_32
def T101_30 : List Tok := (.iload_n 1, 1, 0, 0) :: T101_31
def T101_29 : List Tok := (.if_icmp .lt 24, 3, 0, 0) :: T101_30
def T101_28 : List Tok := (.bipush 30, 2, 0, 0) :: T101_29
def T101_27 : List Tok := (.iload_n 1, 1, 0, 0) :: T101_28
def T101_26 : List Tok := (.ireturn, 1, 0, 0) :: T101_27
def T101_25 : List Tok := (.iaload, 1, 0, 0) :: T101_26
def T101_24 : List Tok := (.isub, 1, 0, 0) :: T101_25
def T101_23 : List Tok := (.bipush 10, 2, 0, 0) :: T101_24
def T101_22 : List Tok := (.iload_n 1, 1, 0, 0) :: T101_23
def T101_21 : List Tok := (.getfield 9, 3, 514, 314) :: T101_22
def T101_20 : List Tok := (.aload_n 0, 1, 0, 0) :: T101_21
def T101_19 : List Tok := (.if_icmp .ge 13, 3, 0, 0) :: T101_20
def T101_18 : List Tok := (.iadd, 1, 0, 0) :: T101_19
def T101_17 : List Tok := (.getfield 37, 3, 513, 313) :: T101_18
def T101_16 : List Tok := (.aload_n 0, 1, 0, 0) :: T101_17
def T101_15 : List Tok := (.bipush 10, 2, 0, 0) :: T101_16
def T101_14 : List Tok := (.iload_n 1, 1, 0, 0) :: T101_15
def T101_13 : List Tok := (.if_icmp .lt 24, 3, 0, 0) :: T101_14
def T101_12 : List Tok := (.bipush 10, 2, 0, 0) :: T101_13
def T101_11 : List Tok := (.iload_n 1, 1, 0, 0) :: T101_12
def T101_10 : List Tok := (.ireturn, 1, 0, 0) :: T101_11
def T101_9 : List Tok := (.getfield 34, 3, 512, 311) :: T101_10
def T101_8 : List Tok := (.aload_n 0, 1, 0, 0) :: T101_9
def T101_7 : List Tok := (.if_icmp .ne 8, 3, 0, 0) :: T101_8
def T101_6 : List Tok := (.iconst 1, 1, 0, 0) :: T101_7
def T101_5 : List Tok := (.iload_n 1, 1, 0, 0) :: T101_6
def T101_4 : List Tok := (.ireturn, 1, 0, 0) :: T101_5
def T101_3 : List Tok := (.getfield 37, 3, 513, 313) :: T101_4
def T101_2 : List Tok := (.aload_n 0, 1, 0, 0) :: T101_3
def T101_1 : List Tok := (.ifCond .ne 8, 3, 0, 0) :: T101_2
def T101_0 : List Tok := (.iload_n 1, 1, 0, 0) :: T101_1
theorem o101_0 (hB : BytesOK) : okL 101 0 T101_0 = true := by
  have h := hB.1 101
  rw [show tk 101 = T101_0 from by decide +kernel] at h
  exact h
theorem o101_1 (hB : BytesOK) : okL 101 1 T101_1 = true := (okL_c (o101_0 hB)).2.2
theorem o101_2 (hB : BytesOK) : okL 101 4 T101_2 = true := (okL_c (o101_1 hB)).2.2
theorem o101_3 (hB : BytesOK) : okL 101 5 T101_3 = true := (okL_c (o101_2 hB)).2.2
theorem o101_4 (hB : BytesOK) : okL 101 8 T101_4 = true := (okL_c (o101_3 hB)).2.2
theorem o101_5 (hB : BytesOK) : okL 101 9 T101_5 = true := (okL_c (o101_4 hB)).2.2
theorem o101_6 (hB : BytesOK) : okL 101 10 T101_6 = true := (okL_c (o101_5 hB)).2.2
theorem o101_7 (hB : BytesOK) : okL 101 11 T101_7 = true := (okL_c (o101_6 hB)).2.2
theorem o101_8 (hB : BytesOK) : okL 101 14 T101_8 = true := (okL_c (o101_7 hB)).2.2
theorem o101_9 (hB : BytesOK) : okL 101 15 T101_9 = true := (okL_c (o101_8 hB)).2.2
theorem o101_10 (hB : BytesOK) : okL 101 18 T101_10 = true := (okL_c (o101_9 hB)).2.2
theorem o101_11 (hB : BytesOK) : okL 101 19 T101_11 = true := (okL_c (o101_10 hB)).2.2
theorem o101_12 (hB : BytesOK) : okL 101 20 T101_12 = true := (okL_c (o101_11 hB)).2.2
theorem o101_13 (hB : BytesOK) : okL 101 22 T101_13 = true := (okL_c (o101_12 hB)).2.2
theorem o101_14 (hB : BytesOK) : okL 101 25 T101_14 = true := (okL_c (o101_13 hB)).2.2
theorem o101_15 (hB : BytesOK) : okL 101 26 T101_15 = true := (okL_c (o101_14 hB)).2.2
theorem o101_16 (hB : BytesOK) : okL 101 28 T101_16 = true := (okL_c (o101_15 hB)).2.2
theorem o101_17 (hB : BytesOK) : okL 101 29 T101_17 = true := (okL_c (o101_16 hB)).2.2
theorem o101_18 (hB : BytesOK) : okL 101 32 T101_18 = true := (okL_c (o101_17 hB)).2.2
theorem o101_19 (hB : BytesOK) : okL 101 33 T101_19 = true := (okL_c (o101_18 hB)).2.2
theorem o101_20 (hB : BytesOK) : okL 101 36 T101_20 = true := (okL_c (o101_19 hB)).2.2
theorem o101_21 (hB : BytesOK) : okL 101 37 T101_21 = true := (okL_c (o101_20 hB)).2.2
theorem o101_22 (hB : BytesOK) : okL 101 40 T101_22 = true := (okL_c (o101_21 hB)).2.2
theorem o101_23 (hB : BytesOK) : okL 101 41 T101_23 = true := (okL_c (o101_22 hB)).2.2
theorem o101_24 (hB : BytesOK) : okL 101 43 T101_24 = true := (okL_c (o101_23 hB)).2.2
theorem o101_25 (hB : BytesOK) : okL 101 44 T101_25 = true := (okL_c (o101_24 hB)).2.2
theorem o101_26 (hB : BytesOK) : okL 101 45 T101_26 = true := (okL_c (o101_25 hB)).2.2
theorem o101_27 (hB : BytesOK) : okL 101 46 T101_27 = true := (okL_c (o101_26 hB)).2.2
theorem o101_28 (hB : BytesOK) : okL 101 47 T101_28 = true := (okL_c (o101_27 hB)).2.2
theorem o101_29 (hB : BytesOK) : okL 101 49 T101_29 = true := (okL_c (o101_28 hB)).2.2
theorem o101_30 (hB : BytesOK) : okL 101 52 T101_30 = true := (okL_c (o101_29 hB)).2.2
theorem o101_31 (hB : BytesOK) : okL 101 53 T101_31 = true := (okL_c (o101_30 hB)).2.2
theorem o101_32 (hB : BytesOK) : okL 101 55 T101_32 = true := (okL_c (o101_31 hB)).2.2
theorem o101_33 (hB : BytesOK) : okL 101 56 T101_33 = true := (okL_c (o101_32 hB)).2.2
theorem o101_34 (hB : BytesOK) : okL 101 59 T101_34 = true := (okL_c (o101_33 hB)).2.2
theorem o101_35 (hB : BytesOK) : okL 101 60 T101_35 = true := (okL_c (o101_34 hB)).2.2
theorem o101_36 (hB : BytesOK) : okL 101 63 T101_36 = true := (okL_c (o101_35 hB)).2.2
theorem o101_37 (hB : BytesOK) : okL 101 64 T101_37 = true := (okL_c (o101_36 hB)).2.2
theorem o101_38 (hB : BytesOK) : okL 101 67 T101_38 = true := (okL_c (o101_37 hB)).2.2
theorem o101_39 (hB : BytesOK) : okL 101 68 T101_39 = true := (okL_c (o101_38 hB)).2.2
theorem o101_40 (hB : BytesOK) : okL 101 70 T101_40 = true := (okL_c (o101_39 hB)).2.2
theorem o101_41 (hB : BytesOK) : okL 101 71 T101_41 = true := (okL_c (o101_40 hB)).2.2
theorem o101_42 (hB : BytesOK) : okL 101 72 T101_42 = true := (okL_c (o101_41 hB)).2.2
theorem o101_43 (hB : BytesOK) : okL 101 73 T101_43 = true := (okL_c (o101_42 hB)).2.2
theorem o101_44 (hB : BytesOK) : okL 101 74 T101_44 = true := (okL_c (o101_43 hB)).2.2
theorem ml101 : mml 101 = 2 := by decide +kernel
theorem mr101 : mret 101 = some .int := by decide +kernel
theorem mg101 : kGood 101 = true := by decide +kernel

def T105_59 : List Tok := []
def T105_58 : List Tok := (.return_, 1, 0, 0) :: T105_59
def T105_57 : List Tok := (.invokestatic 62, 3, 178, 300000) :: T105_58
def T105_56 : List Tok := (.getfield 31, 3, 524, 336) :: T105_57
def T105_55 : List Tok := (.aload_n 0, 1, 0, 0) :: T105_56
def T105_54 : List Tok := (.getfield 31, 3, 524, 336) :: T105_55
def T105_53 : List Tok := (.aload_n 1, 1, 0, 0) :: T105_54
def T105_52 : List Tok := (.putfield 49, 3, 523, 334) :: T105_53
def T105_51 : List Tok := (.getfield 49, 3, 523, 334) :: T105_52
def T105_50 : List Tok := (.aload_n 1, 1, 0, 0) :: T105_51
def T105_49 : List Tok := (.aload_n 0, 1, 0, 0) :: T105_50
def T105_48 : List Tok := (.putfield 46, 3, 522, 331) :: T105_49
def T105_47 : List Tok := (.getfield 46, 3, 522, 331) :: T105_48
def T105_46 : List Tok := (.aload_n 1, 1, 0, 0) :: T105_47
def T105_45 : List Tok := (.aload_n 0, 1, 0, 0) :: T105_46
def T105_44 : List Tok := (.invokestatic 62, 3, 178, 300000) :: T105_45
def T105_43 : List Tok := (.getfield 28, 3, 521, 328) :: T105_44
def T105_42 : List Tok := (.aload_n 0, 1, 0, 0) :: T105_43
def T105_41 : List Tok := (.getfield 28, 3, 521, 328) :: T105_42
def T105_40 : List Tok := (.aload_n 1, 1, 0, 0) :: T105_41
def T105_39 : List Tok := (.putfield 24, 3, 520, 325) :: T105_40
def T105_38 : List Tok := (.getfield 24, 3, 520, 325) :: T105_39
def T105_37 : List Tok := (.aload_n 1, 1, 0, 0) :: T105_38
def T105_36 : List Tok := (.aload_n 0, 1, 0, 0) :: T105_37
def T105_35 : List Tok := (.invokestatic 62, 3, 178, 300000) :: T105_36
def T105_34 : List Tok := (.getfield 21, 3, 519, 323) :: T105_35
def T105_33 : List Tok := (.aload_n 0, 1, 0, 0) :: T105_34
def T105_32 : List Tok := (.getfield 21, 3, 519, 323) :: T105_33
def T105_31 : List Tok := (.aload_n 1, 1, 0, 0) :: T105_32
def T105_30 : List Tok := (.invokestatic 62, 3, 178, 300000) :: T105_31
def T105_29 : List Tok := (.getfield 18, 3, 518, 321) :: T105_30
def T105_28 : List Tok := (.aload_n 0, 1, 0, 0) :: T105_29
def T105_27 : List Tok := (.getfield 18, 3, 518, 321) :: T105_28
def T105_26 : List Tok := (.aload_n 1, 1, 0, 0) :: T105_27
def T105_25 : List Tok := (.putfield 43, 3, 517, 319) :: T105_26
def T105_24 : List Tok := (.getfield 43, 3, 517, 319) :: T105_25
def T105_23 : List Tok := (.aload_n 1, 1, 0, 0) :: T105_24
def T105_22 : List Tok := (.aload_n 0, 1, 0, 0) :: T105_23
def T105_21 : List Tok := (.putfield 40, 3, 516, 316) :: T105_22
def T105_20 : List Tok := (.getfield 40, 3, 516, 316) :: T105_21
def T105_19 : List Tok := (.aload_n 1, 1, 0, 0) :: T105_20
def T105_18 : List Tok := (.aload_n 0, 1, 0, 0) :: T105_19
def T105_17 : List Tok := (.invokestatic 62, 3, 178, 300000) :: T105_18
def T105_16 : List Tok := (.getfield 15, 3, 515, 315) :: T105_17
def T105_15 : List Tok := (.aload_n 0, 1, 0, 0) :: T105_16
def T105_14 : List Tok := (.getfield 15, 3, 515, 315) :: T105_15
def T105_13 : List Tok := (.aload_n 1, 1, 0, 0) :: T105_14
def T105_12 : List Tok := (.invokestatic 62, 3, 178, 300000) :: T105_13
def T105_11 : List Tok := (.getfield 9, 3, 514, 314) :: T105_12
def T105_10 : List Tok := (.aload_n 0, 1, 0, 0) :: T105_11
def T105_9 : List Tok := (.getfield 9, 3, 514, 314) :: T105_10
def T105_8 : List Tok := (.aload_n 1, 1, 0, 0) :: T105_9
def T105_7 : List Tok := (.putfield 37, 3, 513, 313) :: T105_8
def T105_6 : List Tok := (.getfield 37, 3, 513, 313) :: T105_7
def T105_5 : List Tok := (.aload_n 1, 1, 0, 0) :: T105_6
def T105_4 : List Tok := (.aload_n 0, 1, 0, 0) :: T105_5
def T105_3 : List Tok := (.putfield 34, 3, 512, 311) :: T105_4
def T105_2 : List Tok := (.getfield 34, 3, 512, 311) :: T105_3
def T105_1 : List Tok := (.aload_n 1, 1, 0, 0) :: T105_2
def T105_0 : List Tok := (.aload_n 0, 1, 0, 0) :: T105_1
theorem o105_0 (hB : BytesOK) : okL 105 0 T105_0 = true := by
  have h := hB.1 105
  rw [show tk 105 = T105_0 from by decide +kernel] at h
  exact h
theorem o105_1 (hB : BytesOK) : okL 105 1 T105_1 = true := (okL_c (o105_0 hB)).2.2
theorem o105_2 (hB : BytesOK) : okL 105 2 T105_2 = true := (okL_c (o105_1 hB)).2.2
theorem o105_3 (hB : BytesOK) : okL 105 5 T105_3 = true := (okL_c (o105_2 hB)).2.2
theorem o105_4 (hB : BytesOK) : okL 105 8 T105_4 = true := (okL_c (o105_3 hB)).2.2
theorem o105_5 (hB : BytesOK) : okL 105 9 T105_5 = true := (okL_c (o105_4 hB)).2.2
theorem o105_6 (hB : BytesOK) : okL 105 10 T105_6 = true := (okL_c (o105_5 hB)).2.2
theorem o105_7 (hB : BytesOK) : okL 105 13 T105_7 = true := (okL_c (o105_6 hB)).2.2
theorem o105_8 (hB : BytesOK) : okL 105 16 T105_8 = true := (okL_c (o105_7 hB)).2.2
theorem o105_9 (hB : BytesOK) : okL 105 17 T105_9 = true := (okL_c (o105_8 hB)).2.2
theorem o105_10 (hB : BytesOK) : okL 105 20 T105_10 = true := (okL_c (o105_9 hB)).2.2
theorem o105_11 (hB : BytesOK) : okL 105 21 T105_11 = true := (okL_c (o105_10 hB)).2.2
theorem o105_12 (hB : BytesOK) : okL 105 24 T105_12 = true := (okL_c (o105_11 hB)).2.2
theorem o105_13 (hB : BytesOK) : okL 105 27 T105_13 = true := (okL_c (o105_12 hB)).2.2
theorem o105_14 (hB : BytesOK) : okL 105 28 T105_14 = true := (okL_c (o105_13 hB)).2.2
theorem o105_15 (hB : BytesOK) : okL 105 31 T105_15 = true := (okL_c (o105_14 hB)).2.2
theorem o105_16 (hB : BytesOK) : okL 105 32 T105_16 = true := (okL_c (o105_15 hB)).2.2
theorem o105_17 (hB : BytesOK) : okL 105 35 T105_17 = true := (okL_c (o105_16 hB)).2.2
theorem o105_18 (hB : BytesOK) : okL 105 38 T105_18 = true := (okL_c (o105_17 hB)).2.2
theorem o105_19 (hB : BytesOK) : okL 105 39 T105_19 = true := (okL_c (o105_18 hB)).2.2
theorem o105_20 (hB : BytesOK) : okL 105 40 T105_20 = true := (okL_c (o105_19 hB)).2.2
theorem o105_21 (hB : BytesOK) : okL 105 43 T105_21 = true := (okL_c (o105_20 hB)).2.2
theorem o105_22 (hB : BytesOK) : okL 105 46 T105_22 = true := (okL_c (o105_21 hB)).2.2
theorem o105_23 (hB : BytesOK) : okL 105 47 T105_23 = true := (okL_c (o105_22 hB)).2.2
theorem o105_24 (hB : BytesOK) : okL 105 48 T105_24 = true := (okL_c (o105_23 hB)).2.2
theorem o105_25 (hB : BytesOK) : okL 105 51 T105_25 = true := (okL_c (o105_24 hB)).2.2
theorem o105_26 (hB : BytesOK) : okL 105 54 T105_26 = true := (okL_c (o105_25 hB)).2.2
theorem o105_27 (hB : BytesOK) : okL 105 55 T105_27 = true := (okL_c (o105_26 hB)).2.2
theorem o105_28 (hB : BytesOK) : okL 105 58 T105_28 = true := (okL_c (o105_27 hB)).2.2
theorem o105_29 (hB : BytesOK) : okL 105 59 T105_29 = true := (okL_c (o105_28 hB)).2.2
theorem o105_30 (hB : BytesOK) : okL 105 62 T105_30 = true := (okL_c (o105_29 hB)).2.2
theorem o105_31 (hB : BytesOK) : okL 105 65 T105_31 = true := (okL_c (o105_30 hB)).2.2
theorem o105_32 (hB : BytesOK) : okL 105 66 T105_32 = true := (okL_c (o105_31 hB)).2.2
theorem o105_33 (hB : BytesOK) : okL 105 69 T105_33 = true := (okL_c (o105_32 hB)).2.2
theorem o105_34 (hB : BytesOK) : okL 105 70 T105_34 = true := (okL_c (o105_33 hB)).2.2
theorem o105_35 (hB : BytesOK) : okL 105 73 T105_35 = true := (okL_c (o105_34 hB)).2.2
theorem o105_36 (hB : BytesOK) : okL 105 76 T105_36 = true := (okL_c (o105_35 hB)).2.2
theorem o105_37 (hB : BytesOK) : okL 105 77 T105_37 = true := (okL_c (o105_36 hB)).2.2
theorem o105_38 (hB : BytesOK) : okL 105 78 T105_38 = true := (okL_c (o105_37 hB)).2.2
theorem o105_39 (hB : BytesOK) : okL 105 81 T105_39 = true := (okL_c (o105_38 hB)).2.2
theorem o105_40 (hB : BytesOK) : okL 105 84 T105_40 = true := (okL_c (o105_39 hB)).2.2
theorem o105_41 (hB : BytesOK) : okL 105 85 T105_41 = true := (okL_c (o105_40 hB)).2.2
theorem o105_42 (hB : BytesOK) : okL 105 88 T105_42 = true := (okL_c (o105_41 hB)).2.2
theorem o105_43 (hB : BytesOK) : okL 105 89 T105_43 = true := (okL_c (o105_42 hB)).2.2
theorem o105_44 (hB : BytesOK) : okL 105 92 T105_44 = true := (okL_c (o105_43 hB)).2.2
theorem o105_45 (hB : BytesOK) : okL 105 95 T105_45 = true := (okL_c (o105_44 hB)).2.2
theorem o105_46 (hB : BytesOK) : okL 105 96 T105_46 = true := (okL_c (o105_45 hB)).2.2
theorem o105_47 (hB : BytesOK) : okL 105 97 T105_47 = true := (okL_c (o105_46 hB)).2.2
theorem o105_48 (hB : BytesOK) : okL 105 100 T105_48 = true := (okL_c (o105_47 hB)).2.2
theorem o105_49 (hB : BytesOK) : okL 105 103 T105_49 = true := (okL_c (o105_48 hB)).2.2
theorem o105_50 (hB : BytesOK) : okL 105 104 T105_50 = true := (okL_c (o105_49 hB)).2.2
theorem o105_51 (hB : BytesOK) : okL 105 105 T105_51 = true := (okL_c (o105_50 hB)).2.2
theorem o105_52 (hB : BytesOK) : okL 105 108 T105_52 = true := (okL_c (o105_51 hB)).2.2
theorem o105_53 (hB : BytesOK) : okL 105 111 T105_53 = true := (okL_c (o105_52 hB)).2.2
theorem o105_54 (hB : BytesOK) : okL 105 112 T105_54 = true := (okL_c (o105_53 hB)).2.2
theorem o105_55 (hB : BytesOK) : okL 105 115 T105_55 = true := (okL_c (o105_54 hB)).2.2
theorem o105_56 (hB : BytesOK) : okL 105 116 T105_56 = true := (okL_c (o105_55 hB)).2.2
theorem o105_57 (hB : BytesOK) : okL 105 119 T105_57 = true := (okL_c (o105_56 hB)).2.2
theorem o105_58 (hB : BytesOK) : okL 105 122 T105_58 = true := (okL_c (o105_57 hB)).2.2
theorem ml105 : mml 105 = 2 := by decide +kernel
theorem mr105 : mret 105 = none := by decide +kernel
theorem mg105 : kGood 105 = true := by decide +kernel

def T121_81 : List Tok := []
def T121_80 : List Tok := (.return_, 1, 0, 0) :: T121_81
def T121_79 : List Tok := (.invokestatic 113, 3, 178, 300000) :: T121_80
def T121_78 : List Tok := (.getfield 45, 3, 592, 237) :: T121_79
def T121_77 : List Tok := (.aload_n 0, 1, 0, 0) :: T121_78
def T121_76 : List Tok := (.getfield 45, 3, 592, 237) :: T121_77
def T121_75 : List Tok := (.aload_n 1, 1, 0, 0) :: T121_76
def T121_74 : List Tok := (.invokestatic 113, 3, 178, 300000) :: T121_75
def T121_73 : List Tok := (.getfield 42, 3, 591, 236) :: T121_74
def T121_72 : List Tok := (.aload_n 0, 1, 0, 0) :: T121_73
def T121_71 : List Tok := (.getfield 42, 3, 591, 236) :: T121_72
def T121_70 : List Tok := (.aload_n 1, 1, 0, 0) :: T121_71
def T121_69 : List Tok := (.putfield 98, 3, 590, 234) :: T121_70
def T121_68 : List Tok := (.getfield 98, 3, 590, 234) :: T121_69
def T121_67 : List Tok := (.aload_n 1, 1, 0, 0) :: T121_68
def T121_66 : List Tok := (.aload_n 0, 1, 0, 0) :: T121_67
def T121_65 : List Tok := (.invokestatic 113, 3, 178, 300000) :: T121_66
def T121_64 : List Tok := (.getfield 39, 3, 589, 233) :: T121_65
def T121_63 : List Tok := (.aload_n 0, 1, 0, 0) :: T121_64
def T121_62 : List Tok := (.getfield 39, 3, 589, 233) :: T121_63
def T121_61 : List Tok := (.aload_n 1, 1, 0, 0) :: T121_62
def T121_60 : List Tok := (.invokestatic 113, 3, 178, 300000) :: T121_61
def T121_59 : List Tok := (.getfield 36, 3, 588, 232) :: T121_60
def T121_58 : List Tok := (.aload_n 0, 1, 0, 0) :: T121_59
def T121_57 : List Tok := (.getfield 36, 3, 588, 232) :: T121_58
def T121_56 : List Tok := (.aload_n 1, 1, 0, 0) :: T121_57
def T121_55 : List Tok := (.invokestatic 113, 3, 178, 300000) :: T121_56
def T121_54 : List Tok := (.getfield 33, 3, 587, 231) :: T121_55
def T121_53 : List Tok := (.aload_n 0, 1, 0, 0) :: T121_54
def T121_52 : List Tok := (.getfield 33, 3, 587, 231) :: T121_53
def T121_51 : List Tok := (.aload_n 1, 1, 0, 0) :: T121_52
def T121_50 : List Tok := (.putfield 92, 3, 586, 229) :: T121_51
def T121_49 : List Tok := (.getfield 92, 3, 586, 229) :: T121_50
def T121_48 : List Tok := (.aload_n 1, 1, 0, 0) :: T121_49
def T121_47 : List Tok := (.aload_n 0, 1, 0, 0) :: T121_48
def T121_46 : List Tok := (.invokestatic 113, 3, 178, 300000) :: T121_47
def T121_45 : List Tok := (.getfield 30, 3, 585, 228) :: T121_46
def T121_44 : List Tok := (.aload_n 0, 1, 0, 0) :: T121_45
def T121_43 : List Tok := (.getfield 30, 3, 585, 228) :: T121_44
def T121_42 : List Tok := (.aload_n 1, 1, 0, 0) :: T121_43
def T121_41 : List Tok := (.invokestatic 113, 3, 178, 300000) :: T121_42
def T121_40 : List Tok := (.getfield 27, 3, 584, 227) :: T121_41
def T121_39 : List Tok := (.aload_n 0, 1, 0, 0) :: T121_40
def T121_38 : List Tok := (.getfield 27, 3, 584, 227) :: T121_39
def T121_37 : List Tok := (.aload_n 1, 1, 0, 0) :: T121_38
def T121_36 : List Tok := (.invokestatic 113, 3, 178, 300000) :: T121_37
def T121_35 : List Tok := (.getfield 24, 3, 583, 225) :: T121_36
def T121_34 : List Tok := (.aload_n 0, 1, 0, 0) :: T121_35
def T121_33 : List Tok := (.getfield 24, 3, 583, 225) :: T121_34
def T121_32 : List Tok := (.aload_n 1, 1, 0, 0) :: T121_33
def T121_31 : List Tok := (.invokestatic 113, 3, 178, 300000) :: T121_32
def T121_30 : List Tok := (.getfield 21, 3, 582, 224) :: T121_31
def T121_29 : List Tok := (.aload_n 0, 1, 0, 0) :: T121_30
def T121_28 : List Tok := (.getfield 21, 3, 582, 224) :: T121_29
def T121_27 : List Tok := (.aload_n 1, 1, 0, 0) :: T121_28
def T121_26 : List Tok := (.putfield 62, 3, 581, 223) :: T121_27
def T121_25 : List Tok := (.getfield 62, 3, 581, 223) :: T121_26
def T121_24 : List Tok := (.aload_n 1, 1, 0, 0) :: T121_25
def T121_23 : List Tok := (.aload_n 0, 1, 0, 0) :: T121_24
def T121_22 : List Tok := (.putfield 59, 3, 580, 221) :: T121_23
def T121_21 : List Tok := (.getfield 59, 3, 580, 221) :: T121_22
def T121_20 : List Tok := (.aload_n 1, 1, 0, 0) :: T121_21
def T121_19 : List Tok := (.aload_n 0, 1, 0, 0) :: T121_20
def T121_18 : List Tok := (.invokestatic 113, 3, 178, 300000) :: T121_19
def T121_17 : List Tok := (.getfield 18, 3, 579, 220) :: T121_18
def T121_16 : List Tok := (.aload_n 0, 1, 0, 0) :: T121_17
def T121_15 : List Tok := (.getfield 18, 3, 579, 220) :: T121_16
def T121_14 : List Tok := (.aload_n 1, 1, 0, 0) :: T121_15
def T121_13 : List Tok := (.invokestatic 113, 3, 178, 300000) :: T121_14
def T121_12 : List Tok := (.getfield 15, 3, 578, 218) :: T121_13
def T121_11 : List Tok := (.aload_n 0, 1, 0, 0) :: T121_12
def T121_10 : List Tok := (.getfield 15, 3, 578, 218) :: T121_11
def T121_9 : List Tok := (.aload_n 1, 1, 0, 0) :: T121_10
def T121_8 : List Tok := (.invokestatic 113, 3, 178, 300000) :: T121_9
def T121_7 : List Tok := (.getfield 9, 3, 577, 217) :: T121_8
def T121_6 : List Tok := (.aload_n 0, 1, 0, 0) :: T121_7
def T121_5 : List Tok := (.getfield 9, 3, 577, 217) :: T121_6
def T121_4 : List Tok := (.aload_n 1, 1, 0, 0) :: T121_5
def T121_3 : List Tok := (.putfield 48, 3, 576, 215) :: T121_4
def T121_2 : List Tok := (.getfield 48, 3, 576, 215) :: T121_3
def T121_1 : List Tok := (.aload_n 1, 1, 0, 0) :: T121_2
def T121_0 : List Tok := (.aload_n 0, 1, 0, 0) :: T121_1
theorem o121_0 (hB : BytesOK) : okL 121 0 T121_0 = true := by
  have h := hB.1 121
  rw [show tk 121 = T121_0 from by decide +kernel] at h
  exact h
theorem o121_1 (hB : BytesOK) : okL 121 1 T121_1 = true := (okL_c (o121_0 hB)).2.2
theorem o121_2 (hB : BytesOK) : okL 121 2 T121_2 = true := (okL_c (o121_1 hB)).2.2
theorem o121_3 (hB : BytesOK) : okL 121 5 T121_3 = true := (okL_c (o121_2 hB)).2.2
theorem o121_4 (hB : BytesOK) : okL 121 8 T121_4 = true := (okL_c (o121_3 hB)).2.2
theorem o121_5 (hB : BytesOK) : okL 121 9 T121_5 = true := (okL_c (o121_4 hB)).2.2
theorem o121_6 (hB : BytesOK) : okL 121 12 T121_6 = true := (okL_c (o121_5 hB)).2.2
theorem o121_7 (hB : BytesOK) : okL 121 13 T121_7 = true := (okL_c (o121_6 hB)).2.2
theorem o121_8 (hB : BytesOK) : okL 121 16 T121_8 = true := (okL_c (o121_7 hB)).2.2
theorem o121_9 (hB : BytesOK) : okL 121 19 T121_9 = true := (okL_c (o121_8 hB)).2.2
theorem o121_10 (hB : BytesOK) : okL 121 20 T121_10 = true := (okL_c (o121_9 hB)).2.2
theorem o121_11 (hB : BytesOK) : okL 121 23 T121_11 = true := (okL_c (o121_10 hB)).2.2
theorem o121_12 (hB : BytesOK) : okL 121 24 T121_12 = true := (okL_c (o121_11 hB)).2.2
theorem o121_13 (hB : BytesOK) : okL 121 27 T121_13 = true := (okL_c (o121_12 hB)).2.2
theorem o121_14 (hB : BytesOK) : okL 121 30 T121_14 = true := (okL_c (o121_13 hB)).2.2
theorem o121_15 (hB : BytesOK) : okL 121 31 T121_15 = true := (okL_c (o121_14 hB)).2.2
theorem o121_16 (hB : BytesOK) : okL 121 34 T121_16 = true := (okL_c (o121_15 hB)).2.2
theorem o121_17 (hB : BytesOK) : okL 121 35 T121_17 = true := (okL_c (o121_16 hB)).2.2
theorem o121_18 (hB : BytesOK) : okL 121 38 T121_18 = true := (okL_c (o121_17 hB)).2.2
theorem o121_19 (hB : BytesOK) : okL 121 41 T121_19 = true := (okL_c (o121_18 hB)).2.2
theorem o121_20 (hB : BytesOK) : okL 121 42 T121_20 = true := (okL_c (o121_19 hB)).2.2
theorem o121_21 (hB : BytesOK) : okL 121 43 T121_21 = true := (okL_c (o121_20 hB)).2.2
theorem o121_22 (hB : BytesOK) : okL 121 46 T121_22 = true := (okL_c (o121_21 hB)).2.2
theorem o121_23 (hB : BytesOK) : okL 121 49 T121_23 = true := (okL_c (o121_22 hB)).2.2
theorem o121_24 (hB : BytesOK) : okL 121 50 T121_24 = true := (okL_c (o121_23 hB)).2.2
theorem o121_25 (hB : BytesOK) : okL 121 51 T121_25 = true := (okL_c (o121_24 hB)).2.2
theorem o121_26 (hB : BytesOK) : okL 121 54 T121_26 = true := (okL_c (o121_25 hB)).2.2
theorem o121_27 (hB : BytesOK) : okL 121 57 T121_27 = true := (okL_c (o121_26 hB)).2.2
theorem o121_28 (hB : BytesOK) : okL 121 58 T121_28 = true := (okL_c (o121_27 hB)).2.2
theorem o121_29 (hB : BytesOK) : okL 121 61 T121_29 = true := (okL_c (o121_28 hB)).2.2
theorem o121_30 (hB : BytesOK) : okL 121 62 T121_30 = true := (okL_c (o121_29 hB)).2.2
theorem o121_31 (hB : BytesOK) : okL 121 65 T121_31 = true := (okL_c (o121_30 hB)).2.2
theorem o121_32 (hB : BytesOK) : okL 121 68 T121_32 = true := (okL_c (o121_31 hB)).2.2
theorem o121_33 (hB : BytesOK) : okL 121 69 T121_33 = true := (okL_c (o121_32 hB)).2.2
theorem o121_34 (hB : BytesOK) : okL 121 72 T121_34 = true := (okL_c (o121_33 hB)).2.2
theorem o121_35 (hB : BytesOK) : okL 121 73 T121_35 = true := (okL_c (o121_34 hB)).2.2
theorem o121_36 (hB : BytesOK) : okL 121 76 T121_36 = true := (okL_c (o121_35 hB)).2.2
theorem o121_37 (hB : BytesOK) : okL 121 79 T121_37 = true := (okL_c (o121_36 hB)).2.2
theorem o121_38 (hB : BytesOK) : okL 121 80 T121_38 = true := (okL_c (o121_37 hB)).2.2
theorem o121_39 (hB : BytesOK) : okL 121 83 T121_39 = true := (okL_c (o121_38 hB)).2.2
theorem o121_40 (hB : BytesOK) : okL 121 84 T121_40 = true := (okL_c (o121_39 hB)).2.2
theorem o121_41 (hB : BytesOK) : okL 121 87 T121_41 = true := (okL_c (o121_40 hB)).2.2
theorem o121_42 (hB : BytesOK) : okL 121 90 T121_42 = true := (okL_c (o121_41 hB)).2.2
theorem o121_43 (hB : BytesOK) : okL 121 91 T121_43 = true := (okL_c (o121_42 hB)).2.2
theorem o121_44 (hB : BytesOK) : okL 121 94 T121_44 = true := (okL_c (o121_43 hB)).2.2
theorem o121_45 (hB : BytesOK) : okL 121 95 T121_45 = true := (okL_c (o121_44 hB)).2.2
theorem o121_46 (hB : BytesOK) : okL 121 98 T121_46 = true := (okL_c (o121_45 hB)).2.2
theorem o121_47 (hB : BytesOK) : okL 121 101 T121_47 = true := (okL_c (o121_46 hB)).2.2
theorem o121_48 (hB : BytesOK) : okL 121 102 T121_48 = true := (okL_c (o121_47 hB)).2.2
theorem o121_49 (hB : BytesOK) : okL 121 103 T121_49 = true := (okL_c (o121_48 hB)).2.2
theorem o121_50 (hB : BytesOK) : okL 121 106 T121_50 = true := (okL_c (o121_49 hB)).2.2
theorem o121_51 (hB : BytesOK) : okL 121 109 T121_51 = true := (okL_c (o121_50 hB)).2.2
theorem o121_52 (hB : BytesOK) : okL 121 110 T121_52 = true := (okL_c (o121_51 hB)).2.2
theorem o121_53 (hB : BytesOK) : okL 121 113 T121_53 = true := (okL_c (o121_52 hB)).2.2
theorem o121_54 (hB : BytesOK) : okL 121 114 T121_54 = true := (okL_c (o121_53 hB)).2.2
theorem o121_55 (hB : BytesOK) : okL 121 117 T121_55 = true := (okL_c (o121_54 hB)).2.2
theorem o121_56 (hB : BytesOK) : okL 121 120 T121_56 = true := (okL_c (o121_55 hB)).2.2
theorem o121_57 (hB : BytesOK) : okL 121 121 T121_57 = true := (okL_c (o121_56 hB)).2.2
theorem o121_58 (hB : BytesOK) : okL 121 124 T121_58 = true := (okL_c (o121_57 hB)).2.2
theorem o121_59 (hB : BytesOK) : okL 121 125 T121_59 = true := (okL_c (o121_58 hB)).2.2
theorem o121_60 (hB : BytesOK) : okL 121 128 T121_60 = true := (okL_c (o121_59 hB)).2.2
theorem o121_61 (hB : BytesOK) : okL 121 131 T121_61 = true := (okL_c (o121_60 hB)).2.2
theorem o121_62 (hB : BytesOK) : okL 121 132 T121_62 = true := (okL_c (o121_61 hB)).2.2
theorem o121_63 (hB : BytesOK) : okL 121 135 T121_63 = true := (okL_c (o121_62 hB)).2.2
theorem o121_64 (hB : BytesOK) : okL 121 136 T121_64 = true := (okL_c (o121_63 hB)).2.2
theorem o121_65 (hB : BytesOK) : okL 121 139 T121_65 = true := (okL_c (o121_64 hB)).2.2
theorem o121_66 (hB : BytesOK) : okL 121 142 T121_66 = true := (okL_c (o121_65 hB)).2.2
theorem o121_67 (hB : BytesOK) : okL 121 143 T121_67 = true := (okL_c (o121_66 hB)).2.2
theorem o121_68 (hB : BytesOK) : okL 121 144 T121_68 = true := (okL_c (o121_67 hB)).2.2
theorem o121_69 (hB : BytesOK) : okL 121 147 T121_69 = true := (okL_c (o121_68 hB)).2.2
theorem o121_70 (hB : BytesOK) : okL 121 150 T121_70 = true := (okL_c (o121_69 hB)).2.2
theorem o121_71 (hB : BytesOK) : okL 121 151 T121_71 = true := (okL_c (o121_70 hB)).2.2
theorem o121_72 (hB : BytesOK) : okL 121 154 T121_72 = true := (okL_c (o121_71 hB)).2.2
theorem o121_73 (hB : BytesOK) : okL 121 155 T121_73 = true := (okL_c (o121_72 hB)).2.2
theorem o121_74 (hB : BytesOK) : okL 121 158 T121_74 = true := (okL_c (o121_73 hB)).2.2
theorem o121_75 (hB : BytesOK) : okL 121 161 T121_75 = true := (okL_c (o121_74 hB)).2.2
theorem o121_76 (hB : BytesOK) : okL 121 162 T121_76 = true := (okL_c (o121_75 hB)).2.2
theorem o121_77 (hB : BytesOK) : okL 121 165 T121_77 = true := (okL_c (o121_76 hB)).2.2
theorem o121_78 (hB : BytesOK) : okL 121 166 T121_78 = true := (okL_c (o121_77 hB)).2.2
theorem o121_79 (hB : BytesOK) : okL 121 169 T121_79 = true := (okL_c (o121_78 hB)).2.2
theorem o121_80 (hB : BytesOK) : okL 121 172 T121_80 = true := (okL_c (o121_79 hB)).2.2
theorem ml121 : mml 121 = 2 := by decide +kernel
theorem mr121 : mret 121 = none := by decide +kernel
theorem mg121 : kGood 121 = true := by decide +kernel

def T123_31 : List Tok := []
def T123_30 : List Tok := (.ireturn, 1, 0, 0) :: T123_31
def T123_29 : List Tok := (.getfield 58, 3, 192, 121) :: T123_30
def T123_28 : List Tok := (.getfield 54, 3, 128, 366) :: T123_29
def T123_27 : List Tok := (.getfield 10, 3, 640, 497) :: T123_28
def T123_26 : List Tok := (.aload_n 0, 1, 0, 0) :: T123_27
def T123_25 : List Tok := (.putfield 58, 3, 192, 121) :: T123_26
def T123_24 : List Tok := (.iadd, 1, 0, 0) :: T123_25
def T123_23 : List Tok := (.iload_n 1, 1, 0, 0) :: T123_24
def T123_22 : List Tok := (.getfield 58, 3, 192, 121) :: T123_23
def T123_21 : List Tok := (.dup, 1, 0, 0) :: T123_22
def T123_20 : List Tok := (.getfield 54, 3, 128, 366) :: T123_21
def T123_19 : List Tok := (.getfield 10, 3, 640, 497) :: T123_20
def T123_18 : List Tok := (.aload_n 0, 1, 0, 0) :: T123_19
def T123_17 : List Tok := (.ireturn, 1, 0, 0) :: T123_18
def T123_16 : List Tok := (.bipush (-4), 2, 0, 0) :: T123_17
def T123_15 : List Tok := (.if_icmp .lt 6, 3, 0, 0) :: T123_16
def T123_14 : List Tok := (.sipush 240, 3, 0, 0) :: T123_15
def T123_13 : List Tok := (.iadd, 1, 0, 0) :: T123_14
def T123_12 : List Tok := (.iload_n 1, 1, 0, 0) :: T123_13
def T123_11 : List Tok := (.getfield 58, 3, 192, 121) :: T123_12
def T123_10 : List Tok := (.getfield 54, 3, 128, 366) :: T123_11
def T123_9 : List Tok := (.getfield 10, 3, 640, 497) :: T123_10
def T123_8 : List Tok := (.aload_n 0, 1, 0, 0) :: T123_9
def T123_7 : List Tok := (.ireturn, 1, 0, 0) :: T123_8
def T123_6 : List Tok := (.iconst (-1), 1, 0, 0) :: T123_7
def T123_5 : List Tok := (.if_icmp .le 5, 3, 0, 0) :: T123_6
def T123_4 : List Tok := (.bipush 60, 2, 0, 0) :: T123_5
def T123_3 : List Tok := (.iload_n 1, 1, 0, 0) :: T123_4
def T123_2 : List Tok := (.if_icmp .lt 9, 3, 0, 0) :: T123_3
def T123_1 : List Tok := (.iconst 1, 1, 0, 0) :: T123_2
def T123_0 : List Tok := (.iload_n 1, 1, 0, 0) :: T123_1
theorem o123_0 (hB : BytesOK) : okL 123 0 T123_0 = true := by
  have h := hB.1 123
  rw [show tk 123 = T123_0 from by decide +kernel] at h
  exact h
theorem o123_1 (hB : BytesOK) : okL 123 1 T123_1 = true := (okL_c (o123_0 hB)).2.2
theorem o123_2 (hB : BytesOK) : okL 123 2 T123_2 = true := (okL_c (o123_1 hB)).2.2
theorem o123_3 (hB : BytesOK) : okL 123 5 T123_3 = true := (okL_c (o123_2 hB)).2.2
theorem o123_4 (hB : BytesOK) : okL 123 6 T123_4 = true := (okL_c (o123_3 hB)).2.2
theorem o123_5 (hB : BytesOK) : okL 123 8 T123_5 = true := (okL_c (o123_4 hB)).2.2
theorem o123_6 (hB : BytesOK) : okL 123 11 T123_6 = true := (okL_c (o123_5 hB)).2.2
theorem o123_7 (hB : BytesOK) : okL 123 12 T123_7 = true := (okL_c (o123_6 hB)).2.2
theorem o123_8 (hB : BytesOK) : okL 123 13 T123_8 = true := (okL_c (o123_7 hB)).2.2
theorem o123_9 (hB : BytesOK) : okL 123 14 T123_9 = true := (okL_c (o123_8 hB)).2.2
theorem o123_10 (hB : BytesOK) : okL 123 17 T123_10 = true := (okL_c (o123_9 hB)).2.2
theorem o123_11 (hB : BytesOK) : okL 123 20 T123_11 = true := (okL_c (o123_10 hB)).2.2
theorem o123_12 (hB : BytesOK) : okL 123 23 T123_12 = true := (okL_c (o123_11 hB)).2.2
theorem o123_13 (hB : BytesOK) : okL 123 24 T123_13 = true := (okL_c (o123_12 hB)).2.2
theorem o123_14 (hB : BytesOK) : okL 123 25 T123_14 = true := (okL_c (o123_13 hB)).2.2
theorem o123_15 (hB : BytesOK) : okL 123 28 T123_15 = true := (okL_c (o123_14 hB)).2.2
theorem o123_16 (hB : BytesOK) : okL 123 31 T123_16 = true := (okL_c (o123_15 hB)).2.2
theorem o123_17 (hB : BytesOK) : okL 123 33 T123_17 = true := (okL_c (o123_16 hB)).2.2
theorem o123_18 (hB : BytesOK) : okL 123 34 T123_18 = true := (okL_c (o123_17 hB)).2.2
theorem o123_19 (hB : BytesOK) : okL 123 35 T123_19 = true := (okL_c (o123_18 hB)).2.2
theorem o123_20 (hB : BytesOK) : okL 123 38 T123_20 = true := (okL_c (o123_19 hB)).2.2
theorem o123_21 (hB : BytesOK) : okL 123 41 T123_21 = true := (okL_c (o123_20 hB)).2.2
theorem o123_22 (hB : BytesOK) : okL 123 42 T123_22 = true := (okL_c (o123_21 hB)).2.2
theorem o123_23 (hB : BytesOK) : okL 123 45 T123_23 = true := (okL_c (o123_22 hB)).2.2
theorem o123_24 (hB : BytesOK) : okL 123 46 T123_24 = true := (okL_c (o123_23 hB)).2.2
theorem o123_25 (hB : BytesOK) : okL 123 47 T123_25 = true := (okL_c (o123_24 hB)).2.2
theorem o123_26 (hB : BytesOK) : okL 123 50 T123_26 = true := (okL_c (o123_25 hB)).2.2
theorem o123_27 (hB : BytesOK) : okL 123 51 T123_27 = true := (okL_c (o123_26 hB)).2.2
theorem o123_28 (hB : BytesOK) : okL 123 54 T123_28 = true := (okL_c (o123_27 hB)).2.2
theorem o123_29 (hB : BytesOK) : okL 123 57 T123_29 = true := (okL_c (o123_28 hB)).2.2
theorem o123_30 (hB : BytesOK) : okL 123 60 T123_30 = true := (okL_c (o123_29 hB)).2.2
theorem ml123 : mml 123 = 2 := by decide +kernel
theorem mr123 : mret 123 = some .int := by decide +kernel
theorem mg123 : kGood 123 = true := by decide +kernel

def T135_6 : List Tok := []
def T135_5 : List Tok := (.ireturn, 1, 0, 0) :: T135_6
def T135_4 : List Tok := (.invokevirtual 122, 3, 81, 665) :: T135_5
def T135_3 : List Tok := (.iload_n 3, 1, 0, 0) :: T135_4
def T135_2 : List Tok := (.lload_n 1, 1, 0, 0) :: T135_3
def T135_1 : List Tok := (.getfield 22, 3, 643, 500) :: T135_2
def T135_0 : List Tok := (.aload_n 0, 1, 0, 0) :: T135_1
theorem o135_0 (hB : BytesOK) : okL 135 0 T135_0 = true := by
  have h := hB.1 135
  rw [show tk 135 = T135_0 from by decide +kernel] at h
  exact h
theorem o135_1 (hB : BytesOK) : okL 135 1 T135_1 = true := (okL_c (o135_0 hB)).2.2
theorem o135_2 (hB : BytesOK) : okL 135 4 T135_2 = true := (okL_c (o135_1 hB)).2.2
theorem o135_3 (hB : BytesOK) : okL 135 5 T135_3 = true := (okL_c (o135_2 hB)).2.2
theorem o135_4 (hB : BytesOK) : okL 135 6 T135_4 = true := (okL_c (o135_3 hB)).2.2
theorem o135_5 (hB : BytesOK) : okL 135 9 T135_5 = true := (okL_c (o135_4 hB)).2.2
theorem ml135 : mml 135 = 4 := by decide +kernel
theorem mr135 : mret 135 = some .int := by decide +kernel
theorem mg135 : kGood 135 = true := by decide +kernel

def T136_21 : List Tok := []
def T136_20 : List Tok := (.ireturn, 1, 0, 0) :: T136_21
def T136_19 : List Tok := (.invokevirtual 137, 3, 24, 814) :: T136_20
def T136_18 : List Tok := (.getfield 133, 3, 450, 412) :: T136_19
def T136_17 : List Tok := (.getfield 22, 3, 643, 500) :: T136_18
def T136_16 : List Tok := (.aload_n 0, 1, 0, 0) :: T136_17
def T136_15 : List Tok := (.getfield 10, 3, 640, 497) :: T136_16
def T136_14 : List Tok := (.aload_n 0, 1, 0, 0) :: T136_15
def T136_13 : List Tok := (.ireturn, 1, 0, 0) :: T136_14
def T136_12 : List Tok := (.isub, 1, 0, 0) :: T136_13
def T136_11 : List Tok := (.iload_n 1, 1, 0, 0) :: T136_12
def T136_10 : List Tok := (.bipush (-100), 2, 0, 0) :: T136_11
def T136_9 : List Tok := (.ifCond .lt 8, 3, 0, 0) :: T136_10
def T136_8 : List Tok := (.iload_n 1, 1, 0, 0) :: T136_9
def T136_7 : List Tok := (.putfield 130, 3, 448, 409) :: T136_8
def T136_6 : List Tok := (.iconst 0, 1, 0, 0) :: T136_7
def T136_5 : List Tok := (.getfield 22, 3, 643, 500) :: T136_6
def T136_4 : List Tok := (.aload_n 0, 1, 0, 0) :: T136_5
def T136_3 : List Tok := (.istore_n 1, 1, 0, 0) :: T136_4
def T136_2 : List Tok := (.invokevirtual 126, 3, 82, 674) :: T136_3
def T136_1 : List Tok := (.getfield 22, 3, 643, 500) :: T136_2
def T136_0 : List Tok := (.aload_n 0, 1, 0, 0) :: T136_1
theorem o136_0 (hB : BytesOK) : okL 136 0 T136_0 = true := by
  have h := hB.1 136
  rw [show tk 136 = T136_0 from by decide +kernel] at h
  exact h
theorem o136_1 (hB : BytesOK) : okL 136 1 T136_1 = true := (okL_c (o136_0 hB)).2.2
theorem o136_2 (hB : BytesOK) : okL 136 4 T136_2 = true := (okL_c (o136_1 hB)).2.2
theorem o136_3 (hB : BytesOK) : okL 136 7 T136_3 = true := (okL_c (o136_2 hB)).2.2
theorem o136_4 (hB : BytesOK) : okL 136 8 T136_4 = true := (okL_c (o136_3 hB)).2.2
theorem o136_5 (hB : BytesOK) : okL 136 9 T136_5 = true := (okL_c (o136_4 hB)).2.2
theorem o136_6 (hB : BytesOK) : okL 136 12 T136_6 = true := (okL_c (o136_5 hB)).2.2
theorem o136_7 (hB : BytesOK) : okL 136 13 T136_7 = true := (okL_c (o136_6 hB)).2.2
theorem o136_8 (hB : BytesOK) : okL 136 16 T136_8 = true := (okL_c (o136_7 hB)).2.2
theorem o136_9 (hB : BytesOK) : okL 136 17 T136_9 = true := (okL_c (o136_8 hB)).2.2
theorem o136_10 (hB : BytesOK) : okL 136 20 T136_10 = true := (okL_c (o136_9 hB)).2.2
theorem o136_11 (hB : BytesOK) : okL 136 22 T136_11 = true := (okL_c (o136_10 hB)).2.2
theorem o136_12 (hB : BytesOK) : okL 136 23 T136_12 = true := (okL_c (o136_11 hB)).2.2
theorem o136_13 (hB : BytesOK) : okL 136 24 T136_13 = true := (okL_c (o136_12 hB)).2.2
theorem o136_14 (hB : BytesOK) : okL 136 25 T136_14 = true := (okL_c (o136_13 hB)).2.2
theorem o136_15 (hB : BytesOK) : okL 136 26 T136_15 = true := (okL_c (o136_14 hB)).2.2
theorem o136_16 (hB : BytesOK) : okL 136 29 T136_16 = true := (okL_c (o136_15 hB)).2.2
theorem o136_17 (hB : BytesOK) : okL 136 30 T136_17 = true := (okL_c (o136_16 hB)).2.2
theorem o136_18 (hB : BytesOK) : okL 136 33 T136_18 = true := (okL_c (o136_17 hB)).2.2
theorem o136_19 (hB : BytesOK) : okL 136 36 T136_19 = true := (okL_c (o136_18 hB)).2.2
theorem o136_20 (hB : BytesOK) : okL 136 39 T136_20 = true := (okL_c (o136_19 hB)).2.2
theorem ml136 : mml 136 = 2 := by decide +kernel
theorem mr136 : mret 136 = some .int := by decide +kernel
theorem mg136 : kGood 136 = true := by decide +kernel

def T137_13 : List Tok := []
def T137_12 : List Tok := (.ireturn, 1, 0, 0) :: T137_13
def T137_11 : List Tok := (.invokevirtual 145, 3, 101, 840) :: T137_12
def T137_10 : List Tok := (.iload_n 2, 1, 0, 0) :: T137_11
def T137_9 : List Tok := (.aload_n 3, 1, 0, 0) :: T137_10
def T137_8 : List Tok := (.goto 8, 3, 0, 0) :: T137_9
def T137_7 : List Tok := (.iconst (-1), 1, 0, 0) :: T137_8
def T137_6 : List Tok := (.ifnonnull 7, 3, 0, 0) :: T137_7
def T137_5 : List Tok := (.aload_n 3, 1, 0, 0) :: T137_6
def T137_4 : List Tok := (.astore_n 3, 1, 0, 0) :: T137_5
def T137_3 : List Tok := (.invokevirtual 141, 3, 25, 836) :: T137_4
def T137_2 : List Tok := (.iload_n 1, 1, 0, 0) :: T137_3
def T137_1 : List Tok := (.getfield 10, 3, 640, 497) :: T137_2
def T137_0 : List Tok := (.aload_n 0, 1, 0, 0) :: T137_1
theorem o137_0 (hB : BytesOK) : okL 137 0 T137_0 = true := by
  have h := hB.1 137
  rw [show tk 137 = T137_0 from by decide +kernel] at h
  exact h
theorem o137_1 (hB : BytesOK) : okL 137 1 T137_1 = true := (okL_c (o137_0 hB)).2.2
theorem o137_2 (hB : BytesOK) : okL 137 4 T137_2 = true := (okL_c (o137_1 hB)).2.2
theorem o137_3 (hB : BytesOK) : okL 137 5 T137_3 = true := (okL_c (o137_2 hB)).2.2
theorem o137_4 (hB : BytesOK) : okL 137 8 T137_4 = true := (okL_c (o137_3 hB)).2.2
theorem o137_5 (hB : BytesOK) : okL 137 9 T137_5 = true := (okL_c (o137_4 hB)).2.2
theorem o137_6 (hB : BytesOK) : okL 137 10 T137_6 = true := (okL_c (o137_5 hB)).2.2
theorem o137_7 (hB : BytesOK) : okL 137 13 T137_7 = true := (okL_c (o137_6 hB)).2.2
theorem o137_8 (hB : BytesOK) : okL 137 14 T137_8 = true := (okL_c (o137_7 hB)).2.2
theorem o137_9 (hB : BytesOK) : okL 137 17 T137_9 = true := (okL_c (o137_8 hB)).2.2
theorem o137_10 (hB : BytesOK) : okL 137 18 T137_10 = true := (okL_c (o137_9 hB)).2.2
theorem o137_11 (hB : BytesOK) : okL 137 19 T137_11 = true := (okL_c (o137_10 hB)).2.2
theorem o137_12 (hB : BytesOK) : okL 137 22 T137_12 = true := (okL_c (o137_11 hB)).2.2
theorem ml137 : mml 137 = 4 := by decide +kernel
theorem mr137 : mret 137 = some .int := by decide +kernel
theorem mg137 : kGood 137 = true := by decide +kernel

def T169_10 : List Tok := []
def T169_9 : List Tok := (.ireturn, 1, 0, 0) :: T169_10
def T169_8 : List Tok := (.iconst 1, 1, 0, 0) :: T169_9
def T169_7 : List Tok := (.putfield 338, 3, 642, 499) :: T169_8
def T169_6 : List Tok := (.iconst 1, 1, 0, 0) :: T169_7
def T169_5 : List Tok := (.aload_n 0, 1, 0, 0) :: T169_6
def T169_4 : List Tok := (.invokevirtual 335, 3, 43, 1311) :: T169_5
def T169_3 : List Tok := (.getfield 10, 3, 640, 497) :: T169_4
def T169_2 : List Tok := (.aload_n 0, 1, 0, 0) :: T169_3
def T169_1 : List Tok := (.getfield 16, 3, 641, 498) :: T169_2
def T169_0 : List Tok := (.aload_n 0, 1, 0, 0) :: T169_1
theorem o169_0 (hB : BytesOK) : okL 169 0 T169_0 = true := by
  have h := hB.1 169
  rw [show tk 169 = T169_0 from by decide +kernel] at h
  exact h
theorem o169_1 (hB : BytesOK) : okL 169 1 T169_1 = true := (okL_c (o169_0 hB)).2.2
theorem o169_2 (hB : BytesOK) : okL 169 4 T169_2 = true := (okL_c (o169_1 hB)).2.2
theorem o169_3 (hB : BytesOK) : okL 169 5 T169_3 = true := (okL_c (o169_2 hB)).2.2
theorem o169_4 (hB : BytesOK) : okL 169 8 T169_4 = true := (okL_c (o169_3 hB)).2.2
theorem o169_5 (hB : BytesOK) : okL 169 11 T169_5 = true := (okL_c (o169_4 hB)).2.2
theorem o169_6 (hB : BytesOK) : okL 169 12 T169_6 = true := (okL_c (o169_5 hB)).2.2
theorem o169_7 (hB : BytesOK) : okL 169 13 T169_7 = true := (okL_c (o169_6 hB)).2.2
theorem o169_8 (hB : BytesOK) : okL 169 16 T169_8 = true := (okL_c (o169_7 hB)).2.2
theorem o169_9 (hB : BytesOK) : okL 169 17 T169_9 = true := (okL_c (o169_8 hB)).2.2
theorem ml169 : mml 169 = 1 := by decide +kernel
theorem mr169 : mret 169 = some .int := by decide +kernel
theorem mg169 : kGood 169 = true := by decide +kernel

def T170_12 : List Tok := []
def T170_11 : List Tok := (.ireturn, 1, 0, 0) :: T170_12
def T170_10 : List Tok := (.iconst 1, 1, 0, 0) :: T170_11
def T170_9 : List Tok := (.invokevirtual 335, 3, 43, 1311) :: T170_10
def T170_8 : List Tok := (.getfield 16, 3, 641, 498) :: T170_9
def T170_7 : List Tok := (.aload_n 0, 1, 0, 0) :: T170_8
def T170_6 : List Tok := (.getfield 10, 3, 640, 497) :: T170_7
def T170_5 : List Tok := (.aload_n 0, 1, 0, 0) :: T170_6
def T170_4 : List Tok := (.ireturn, 1, 0, 0) :: T170_5
def T170_3 : List Tok := (.bipush (-3), 2, 0, 0) :: T170_4
def T170_2 : List Tok := (.ifCond .ne 6, 3, 0, 0) :: T170_3
def T170_1 : List Tok := (.getfield 338, 3, 642, 499) :: T170_2
def T170_0 : List Tok := (.aload_n 0, 1, 0, 0) :: T170_1
theorem o170_0 (hB : BytesOK) : okL 170 0 T170_0 = true := by
  have h := hB.1 170
  rw [show tk 170 = T170_0 from by decide +kernel] at h
  exact h
theorem o170_1 (hB : BytesOK) : okL 170 1 T170_1 = true := (okL_c (o170_0 hB)).2.2
theorem o170_2 (hB : BytesOK) : okL 170 4 T170_2 = true := (okL_c (o170_1 hB)).2.2
theorem o170_3 (hB : BytesOK) : okL 170 7 T170_3 = true := (okL_c (o170_2 hB)).2.2
theorem o170_4 (hB : BytesOK) : okL 170 9 T170_4 = true := (okL_c (o170_3 hB)).2.2
theorem o170_5 (hB : BytesOK) : okL 170 10 T170_5 = true := (okL_c (o170_4 hB)).2.2
theorem o170_6 (hB : BytesOK) : okL 170 11 T170_6 = true := (okL_c (o170_5 hB)).2.2
theorem o170_7 (hB : BytesOK) : okL 170 14 T170_7 = true := (okL_c (o170_6 hB)).2.2
theorem o170_8 (hB : BytesOK) : okL 170 15 T170_8 = true := (okL_c (o170_7 hB)).2.2
theorem o170_9 (hB : BytesOK) : okL 170 18 T170_9 = true := (okL_c (o170_8 hB)).2.2
theorem o170_10 (hB : BytesOK) : okL 170 21 T170_10 = true := (okL_c (o170_9 hB)).2.2
theorem o170_11 (hB : BytesOK) : okL 170 22 T170_11 = true := (okL_c (o170_10 hB)).2.2
theorem ml170 : mml 170 = 1 := by decide +kernel
theorem mr170 : mret 170 = some .int := by decide +kernel
theorem mg170 : kGood 170 = true := by decide +kernel

def T171_9 : List Tok := []
def T171_8 : List Tok := (.ireturn, 1, 0, 0) :: T171_9
def T171_7 : List Tok := (.iconst 0, 1, 0, 0) :: T171_8
def T171_6 : List Tok := (.goto 4, 3, 0, 0) :: T171_7
def T171_5 : List Tok := (.iconst 1, 1, 0, 0) :: T171_6
def T171_4 : List Tok := (.if_icmp .ge 7, 3, 0, 0) :: T171_5
def T171_3 : List Tok := (.sipush 240, 3, 0, 0) :: T171_4
def T171_2 : List Tok := (.iload_n 0, 1, 0, 0) :: T171_3
def T171_1 : List Tok := (.ifCond .lt 14, 3, 0, 0) :: T171_2
def T171_0 : List Tok := (.iload_n 0, 1, 0, 0) :: T171_1
theorem o171_0 (hB : BytesOK) : okL 171 0 T171_0 = true := by
  have h := hB.1 171
  rw [show tk 171 = T171_0 from by decide +kernel] at h
  exact h
theorem o171_1 (hB : BytesOK) : okL 171 1 T171_1 = true := (okL_c (o171_0 hB)).2.2
theorem o171_2 (hB : BytesOK) : okL 171 4 T171_2 = true := (okL_c (o171_1 hB)).2.2
theorem o171_3 (hB : BytesOK) : okL 171 5 T171_3 = true := (okL_c (o171_2 hB)).2.2
theorem o171_4 (hB : BytesOK) : okL 171 8 T171_4 = true := (okL_c (o171_3 hB)).2.2
theorem o171_5 (hB : BytesOK) : okL 171 11 T171_5 = true := (okL_c (o171_4 hB)).2.2
theorem o171_6 (hB : BytesOK) : okL 171 12 T171_6 = true := (okL_c (o171_5 hB)).2.2
theorem o171_7 (hB : BytesOK) : okL 171 15 T171_7 = true := (okL_c (o171_6 hB)).2.2
theorem o171_8 (hB : BytesOK) : okL 171 16 T171_8 = true := (okL_c (o171_7 hB)).2.2
theorem ml171 : mml 171 = 1 := by decide +kernel
theorem mr171 : mret 171 = some .boolean := by decide +kernel
theorem mg171 : kGood 171 = true := by decide +kernel

def T177_23 : List Tok := []
def T177_22 : List Tok := (.ireturn, 1, 0, 0) :: T177_23
def T177_21 : List Tok := (.iconst 0, 1, 0, 0) :: T177_22
def T177_20 : List Tok := (.goto 4, 3, 0, 0) :: T177_21
def T177_19 : List Tok := (.iconst 1, 1, 0, 0) :: T177_20
def T177_18 : List Tok := (.if_icmp .ge 7, 3, 0, 0) :: T177_19
def T177_17 : List Tok := (.sipush 240, 3, 0, 0) :: T177_18
def T177_16 : List Tok := (.irem, 1, 0, 0) :: T177_17
def T177_15 : List Tok := (.sipush 1000, 3, 0, 0) :: T177_16
def T177_14 : List Tok := (.iload_n 0, 1, 0, 0) :: T177_15
def T177_13 : List Tok := (.if_icmp .ge 18, 3, 0, 0) :: T177_14
def T177_12 : List Tok := (.iconst 4, 1, 0, 0) :: T177_13
def T177_11 : List Tok := (.irem, 1, 0, 0) :: T177_12
def T177_10 : List Tok := (.bipush 10, 2, 0, 0) :: T177_11
def T177_9 : List Tok := (.idiv, 1, 0, 0) :: T177_10
def T177_8 : List Tok := (.sipush 1000, 3, 0, 0) :: T177_9
def T177_7 : List Tok := (.iload_n 0, 1, 0, 0) :: T177_8
def T177_6 : List Tok := (.if_icmp .ge 30, 3, 0, 0) :: T177_7
def T177_5 : List Tok := (.bipush 6, 2, 0, 0) :: T177_6
def T177_4 : List Tok := (.idiv, 1, 0, 0) :: T177_5
def T177_3 : List Tok := (.sipush 10000, 3, 0, 0) :: T177_4
def T177_2 : List Tok := (.iload_n 0, 1, 0, 0) :: T177_3
def T177_1 : List Tok := (.ifCond .lt 40, 3, 0, 0) :: T177_2
def T177_0 : List Tok := (.iload_n 0, 1, 0, 0) :: T177_1
theorem o177_0 (hB : BytesOK) : okL 177 0 T177_0 = true := by
  have h := hB.1 177
  rw [show tk 177 = T177_0 from by decide +kernel] at h
  exact h
theorem o177_1 (hB : BytesOK) : okL 177 1 T177_1 = true := (okL_c (o177_0 hB)).2.2
theorem o177_2 (hB : BytesOK) : okL 177 4 T177_2 = true := (okL_c (o177_1 hB)).2.2
theorem o177_3 (hB : BytesOK) : okL 177 5 T177_3 = true := (okL_c (o177_2 hB)).2.2
theorem o177_4 (hB : BytesOK) : okL 177 8 T177_4 = true := (okL_c (o177_3 hB)).2.2
theorem o177_5 (hB : BytesOK) : okL 177 9 T177_5 = true := (okL_c (o177_4 hB)).2.2
theorem o177_6 (hB : BytesOK) : okL 177 11 T177_6 = true := (okL_c (o177_5 hB)).2.2
theorem o177_7 (hB : BytesOK) : okL 177 14 T177_7 = true := (okL_c (o177_6 hB)).2.2
theorem o177_8 (hB : BytesOK) : okL 177 15 T177_8 = true := (okL_c (o177_7 hB)).2.2
theorem o177_9 (hB : BytesOK) : okL 177 18 T177_9 = true := (okL_c (o177_8 hB)).2.2
theorem o177_10 (hB : BytesOK) : okL 177 19 T177_10 = true := (okL_c (o177_9 hB)).2.2
theorem o177_11 (hB : BytesOK) : okL 177 21 T177_11 = true := (okL_c (o177_10 hB)).2.2
theorem o177_12 (hB : BytesOK) : okL 177 22 T177_12 = true := (okL_c (o177_11 hB)).2.2
theorem o177_13 (hB : BytesOK) : okL 177 23 T177_13 = true := (okL_c (o177_12 hB)).2.2
theorem o177_14 (hB : BytesOK) : okL 177 26 T177_14 = true := (okL_c (o177_13 hB)).2.2
theorem o177_15 (hB : BytesOK) : okL 177 27 T177_15 = true := (okL_c (o177_14 hB)).2.2
theorem o177_16 (hB : BytesOK) : okL 177 30 T177_16 = true := (okL_c (o177_15 hB)).2.2
theorem o177_17 (hB : BytesOK) : okL 177 31 T177_17 = true := (okL_c (o177_16 hB)).2.2
theorem o177_18 (hB : BytesOK) : okL 177 34 T177_18 = true := (okL_c (o177_17 hB)).2.2
theorem o177_19 (hB : BytesOK) : okL 177 37 T177_19 = true := (okL_c (o177_18 hB)).2.2
theorem o177_20 (hB : BytesOK) : okL 177 38 T177_20 = true := (okL_c (o177_19 hB)).2.2
theorem o177_21 (hB : BytesOK) : okL 177 41 T177_21 = true := (okL_c (o177_20 hB)).2.2
theorem o177_22 (hB : BytesOK) : okL 177 42 T177_22 = true := (okL_c (o177_21 hB)).2.2
theorem ml177 : mml 177 = 1 := by decide +kernel
theorem mr177 : mret 177 = some .boolean := by decide +kernel
theorem mg177 : kGood 177 = true := by decide +kernel

def T178_11 : List Tok := []
def T178_10 : List Tok := (.return_, 1, 0, 0) :: T178_11
def T178_9 : List Tok := (.invokestatic 347, 3, 1001, 828) :: T178_10
def T178_8 : List Tok := (.invokestatic 342, 3, 300, 825) :: T178_9
def T178_7 : List Tok := (.arraylength, 1, 0, 0) :: T178_8
def T178_6 : List Tok := (.aload_n 1, 1, 0, 0) :: T178_7
def T178_5 : List Tok := (.arraylength, 1, 0, 0) :: T178_6
def T178_4 : List Tok := (.aload_n 0, 1, 0, 0) :: T178_5
def T178_3 : List Tok := (.iconst 0, 1, 0, 0) :: T178_4
def T178_2 : List Tok := (.aload_n 1, 1, 0, 0) :: T178_3
def T178_1 : List Tok := (.iconst 0, 1, 0, 0) :: T178_2
def T178_0 : List Tok := (.aload_n 0, 1, 0, 0) :: T178_1
theorem o178_0 (hB : BytesOK) : okL 178 0 T178_0 = true := by
  have h := hB.1 178
  rw [show tk 178 = T178_0 from by decide +kernel] at h
  exact h
theorem o178_1 (hB : BytesOK) : okL 178 1 T178_1 = true := (okL_c (o178_0 hB)).2.2
theorem o178_2 (hB : BytesOK) : okL 178 2 T178_2 = true := (okL_c (o178_1 hB)).2.2
theorem o178_3 (hB : BytesOK) : okL 178 3 T178_3 = true := (okL_c (o178_2 hB)).2.2
theorem o178_4 (hB : BytesOK) : okL 178 4 T178_4 = true := (okL_c (o178_3 hB)).2.2
theorem o178_5 (hB : BytesOK) : okL 178 5 T178_5 = true := (okL_c (o178_4 hB)).2.2
theorem o178_6 (hB : BytesOK) : okL 178 6 T178_6 = true := (okL_c (o178_5 hB)).2.2
theorem o178_7 (hB : BytesOK) : okL 178 7 T178_7 = true := (okL_c (o178_6 hB)).2.2
theorem o178_8 (hB : BytesOK) : okL 178 8 T178_8 = true := (okL_c (o178_7 hB)).2.2
theorem o178_9 (hB : BytesOK) : okL 178 11 T178_9 = true := (okL_c (o178_8 hB)).2.2
theorem o178_10 (hB : BytesOK) : okL 178 14 T178_10 = true := (okL_c (o178_9 hB)).2.2
theorem ml178 : mml 178 = 2 := by decide +kernel
theorem mr178 : mret 178 = none := by decide +kernel
theorem mg178 : kGood 178 = true := by decide +kernel

def T184_10 : List Tok := []
def T184_9 : List Tok := (.ireturn, 1, 0, 0) :: T184_10
def T184_8 : List Tok := (.iconst 0, 1, 0, 0) :: T184_9
def T184_7 : List Tok := (.goto 4, 3, 0, 0) :: T184_8
def T184_6 : List Tok := (.iconst 1, 1, 0, 0) :: T184_7
def T184_5 : List Tok := (.if_icmp .gt 7, 3, 0, 0) :: T184_6
def T184_4 : List Tok := (.iload_n 2, 1, 0, 0) :: T184_5
def T184_3 : List Tok := (.iload_n 0, 1, 0, 0) :: T184_4
def T184_2 : List Tok := (.if_icmp .lt 12, 3, 0, 0) :: T184_3
def T184_1 : List Tok := (.iload_n 1, 1, 0, 0) :: T184_2
def T184_0 : List Tok := (.iload_n 0, 1, 0, 0) :: T184_1
theorem o184_0 (hB : BytesOK) : okL 184 0 T184_0 = true := by
  have h := hB.1 184
  rw [show tk 184 = T184_0 from by decide +kernel] at h
  exact h
theorem o184_1 (hB : BytesOK) : okL 184 1 T184_1 = true := (okL_c (o184_0 hB)).2.2
theorem o184_2 (hB : BytesOK) : okL 184 2 T184_2 = true := (okL_c (o184_1 hB)).2.2
theorem o184_3 (hB : BytesOK) : okL 184 5 T184_3 = true := (okL_c (o184_2 hB)).2.2
theorem o184_4 (hB : BytesOK) : okL 184 6 T184_4 = true := (okL_c (o184_3 hB)).2.2
theorem o184_5 (hB : BytesOK) : okL 184 7 T184_5 = true := (okL_c (o184_4 hB)).2.2
theorem o184_6 (hB : BytesOK) : okL 184 10 T184_6 = true := (okL_c (o184_5 hB)).2.2
theorem o184_7 (hB : BytesOK) : okL 184 11 T184_7 = true := (okL_c (o184_6 hB)).2.2
theorem o184_8 (hB : BytesOK) : okL 184 14 T184_8 = true := (okL_c (o184_7 hB)).2.2
theorem o184_9 (hB : BytesOK) : okL 184 15 T184_9 = true := (okL_c (o184_8 hB)).2.2
theorem ml184 : mml 184 = 3 := by decide +kernel
theorem mr184 : mret 184 = some .boolean := by decide +kernel
theorem mg184 : kGood 184 = true := by decide +kernel

def T185_5 : List Tok := []
def T185_4 : List Tok := (.ireturn, 1, 0, 0) :: T185_5
def T185_3 : List Tok := (.invokestatic 64, 3, 184, 1491) :: T185_4
def T185_2 : List Tok := (.sipush 239, 3, 0, 0) :: T185_3
def T185_1 : List Tok := (.iconst 0, 1, 0, 0) :: T185_2
def T185_0 : List Tok := (.iload_n 0, 1, 0, 0) :: T185_1
theorem o185_0 (hB : BytesOK) : okL 185 0 T185_0 = true := by
  have h := hB.1 185
  rw [show tk 185 = T185_0 from by decide +kernel] at h
  exact h
theorem o185_1 (hB : BytesOK) : okL 185 1 T185_1 = true := (okL_c (o185_0 hB)).2.2
theorem o185_2 (hB : BytesOK) : okL 185 2 T185_2 = true := (okL_c (o185_1 hB)).2.2
theorem o185_3 (hB : BytesOK) : okL 185 5 T185_3 = true := (okL_c (o185_2 hB)).2.2
theorem o185_4 (hB : BytesOK) : okL 185 8 T185_4 = true := (okL_c (o185_3 hB)).2.2
theorem ml185 : mml 185 = 1 := by decide +kernel
theorem mr185 : mret 185 = some .boolean := by decide +kernel
theorem mg185 : kGood 185 = true := by decide +kernel

def T189_30 : List Tok := []
def T189_29 : List Tok := (.ireturn, 1, 0, 0) :: T189_30
def T189_28 : List Tok := (.iaload, 1, 0, 0) :: T189_29
def T189_27 : List Tok := (.iconst 0, 1, 0, 0) :: T189_28
def T189_26 : List Tok := (.getfield 7, 3, 704, 1345) :: T189_27
def T189_25 : List Tok := (.aload_n 0, 1, 0, 0) :: T189_26
def T189_24 : List Tok := (.iastore, 1, 0, 0) :: T189_25
def T189_23 : List Tok := (.iadd, 1, 0, 0) :: T189_24
def T189_22 : List Tok := (.iload_n 1, 1, 0, 0) :: T189_23
def T189_21 : List Tok := (.iaload, 1, 0, 0) :: T189_22
def T189_20 : List Tok := (.dup2, 1, 0, 0) :: T189_21
def T189_19 : List Tok := (.iconst 0, 1, 0, 0) :: T189_20
def T189_18 : List Tok := (.getfield 7, 3, 704, 1345) :: T189_19
def T189_17 : List Tok := (.aload_n 0, 1, 0, 0) :: T189_18
def T189_16 : List Tok := (.ireturn, 1, 0, 0) :: T189_17
def T189_15 : List Tok := (.bipush (-4), 2, 0, 0) :: T189_16
def T189_14 : List Tok := (.if_icmp .le 6, 3, 0, 0) :: T189_15
def T189_13 : List Tok := (.sipush 239, 3, 0, 0) :: T189_14
def T189_12 : List Tok := (.iadd, 1, 0, 0) :: T189_13
def T189_11 : List Tok := (.iload_n 1, 1, 0, 0) :: T189_12
def T189_10 : List Tok := (.iaload, 1, 0, 0) :: T189_11
def T189_9 : List Tok := (.iconst 0, 1, 0, 0) :: T189_10
def T189_8 : List Tok := (.getfield 7, 3, 704, 1345) :: T189_9
def T189_7 : List Tok := (.aload_n 0, 1, 0, 0) :: T189_8
def T189_6 : List Tok := (.ireturn, 1, 0, 0) :: T189_7
def T189_5 : List Tok := (.iconst (-1), 1, 0, 0) :: T189_6
def T189_4 : List Tok := (.ifCond .ne 5, 3, 0, 0) :: T189_5
def T189_3 : List Tok := (.invokestatic 64, 3, 184, 1491) :: T189_4
def T189_2 : List Tok := (.bipush 60, 2, 0, 0) :: T189_3
def T189_1 : List Tok := (.iconst 1, 1, 0, 0) :: T189_2
def T189_0 : List Tok := (.iload_n 1, 1, 0, 0) :: T189_1
theorem o189_0 (hB : BytesOK) : okL 189 0 T189_0 = true := by
  have h := hB.1 189
  rw [show tk 189 = T189_0 from by decide +kernel] at h
  exact h
theorem o189_1 (hB : BytesOK) : okL 189 1 T189_1 = true := (okL_c (o189_0 hB)).2.2
theorem o189_2 (hB : BytesOK) : okL 189 2 T189_2 = true := (okL_c (o189_1 hB)).2.2
theorem o189_3 (hB : BytesOK) : okL 189 4 T189_3 = true := (okL_c (o189_2 hB)).2.2
theorem o189_4 (hB : BytesOK) : okL 189 7 T189_4 = true := (okL_c (o189_3 hB)).2.2
theorem o189_5 (hB : BytesOK) : okL 189 10 T189_5 = true := (okL_c (o189_4 hB)).2.2
theorem o189_6 (hB : BytesOK) : okL 189 11 T189_6 = true := (okL_c (o189_5 hB)).2.2
theorem o189_7 (hB : BytesOK) : okL 189 12 T189_7 = true := (okL_c (o189_6 hB)).2.2
theorem o189_8 (hB : BytesOK) : okL 189 13 T189_8 = true := (okL_c (o189_7 hB)).2.2
theorem o189_9 (hB : BytesOK) : okL 189 16 T189_9 = true := (okL_c (o189_8 hB)).2.2
theorem o189_10 (hB : BytesOK) : okL 189 17 T189_10 = true := (okL_c (o189_9 hB)).2.2
theorem o189_11 (hB : BytesOK) : okL 189 18 T189_11 = true := (okL_c (o189_10 hB)).2.2
theorem o189_12 (hB : BytesOK) : okL 189 19 T189_12 = true := (okL_c (o189_11 hB)).2.2
theorem o189_13 (hB : BytesOK) : okL 189 20 T189_13 = true := (okL_c (o189_12 hB)).2.2
theorem o189_14 (hB : BytesOK) : okL 189 23 T189_14 = true := (okL_c (o189_13 hB)).2.2
theorem o189_15 (hB : BytesOK) : okL 189 26 T189_15 = true := (okL_c (o189_14 hB)).2.2
theorem o189_16 (hB : BytesOK) : okL 189 28 T189_16 = true := (okL_c (o189_15 hB)).2.2
theorem o189_17 (hB : BytesOK) : okL 189 29 T189_17 = true := (okL_c (o189_16 hB)).2.2
theorem o189_18 (hB : BytesOK) : okL 189 30 T189_18 = true := (okL_c (o189_17 hB)).2.2
theorem o189_19 (hB : BytesOK) : okL 189 33 T189_19 = true := (okL_c (o189_18 hB)).2.2
theorem o189_20 (hB : BytesOK) : okL 189 34 T189_20 = true := (okL_c (o189_19 hB)).2.2
theorem o189_21 (hB : BytesOK) : okL 189 35 T189_21 = true := (okL_c (o189_20 hB)).2.2
theorem o189_22 (hB : BytesOK) : okL 189 36 T189_22 = true := (okL_c (o189_21 hB)).2.2
theorem o189_23 (hB : BytesOK) : okL 189 37 T189_23 = true := (okL_c (o189_22 hB)).2.2
theorem o189_24 (hB : BytesOK) : okL 189 38 T189_24 = true := (okL_c (o189_23 hB)).2.2
theorem o189_25 (hB : BytesOK) : okL 189 39 T189_25 = true := (okL_c (o189_24 hB)).2.2
theorem o189_26 (hB : BytesOK) : okL 189 40 T189_26 = true := (okL_c (o189_25 hB)).2.2
theorem o189_27 (hB : BytesOK) : okL 189 43 T189_27 = true := (okL_c (o189_26 hB)).2.2
theorem o189_28 (hB : BytesOK) : okL 189 44 T189_28 = true := (okL_c (o189_27 hB)).2.2
theorem o189_29 (hB : BytesOK) : okL 189 45 T189_29 = true := (okL_c (o189_28 hB)).2.2
theorem ml189 : mml 189 = 2 := by decide +kernel
theorem mr189 : mret 189 = some .int := by decide +kernel
theorem mg189 : kGood 189 = true := by decide +kernel

def T210_44 : List Tok := []
def T210_43 : List Tok := (.ireturn, 1, 0, 0) :: T210_44
def T210_42 : List Tok := (.getfield 109, 3, 708, 1349) :: T210_43
def T210_41 : List Tok := (.aload_n 0, 1, 0, 0) :: T210_42
def T210_40 : List Tok := (.goto (-40), 3, 0, 0) :: T210_41
def T210_39 : List Tok := (.iinc 4 1, 3, 0, 0) :: T210_40
def T210_38 : List Tok := (.putfield 109, 3, 708, 1349) :: T210_39
def T210_37 : List Tok := (.iadd, 1, 0, 0) :: T210_38
def T210_36 : List Tok := (.iconst 1, 1, 0, 0) :: T210_37
def T210_35 : List Tok := (.getfield 109, 3, 708, 1349) :: T210_36
def T210_34 : List Tok := (.dup, 1, 0, 0) :: T210_35
def T210_33 : List Tok := (.aload_n 0, 1, 0, 0) :: T210_34
def T210_32 : List Tok := (.iastore, 1, 0, 0) :: T210_33
def T210_31 : List Tok := (.l2i, 1, 0, 0) :: T210_32
def T210_30 : List Tok := (.land, 1, 0, 0) :: T210_31
def T210_29 : List Tok := (.ldc2_w 113, 3, 0, 1587) :: T210_30
def T210_28 : List Tok := (.lshr, 1, 0, 0) :: T210_29
def T210_27 : List Tok := (.imul, 1, 0, 0) :: T210_28
def T210_26 : List Tok := (.iload 4, 2, 0, 0) :: T210_27
def T210_25 : List Tok := (.bipush 8, 2, 0, 0) :: T210_26
def T210_24 : List Tok := (.lload_n 1, 1, 0, 0) :: T210_25
def T210_23 : List Tok := (.getfield 109, 3, 708, 1349) :: T210_24
def T210_22 : List Tok := (.aload_n 0, 1, 0, 0) :: T210_23
def T210_21 : List Tok := (.getfield 16, 3, 707, 1348) :: T210_22
def T210_20 : List Tok := (.aload_n 0, 1, 0, 0) :: T210_21
def T210_19 : List Tok := (.if_icmp .ge 40, 3, 0, 0) :: T210_20
def T210_18 : List Tok := (.iload_n 3, 1, 0, 0) :: T210_19
def T210_17 : List Tok := (.iload 4, 2, 0, 0) :: T210_18
def T210_16 : List Tok := (.istore 4, 2, 0, 0) :: T210_17
def T210_15 : List Tok := (.iconst 0, 1, 0, 0) :: T210_16
def T210_14 : List Tok := (.ireturn, 1, 0, 0) :: T210_15
def T210_13 : List Tok := (.bipush (-2), 2, 0, 0) :: T210_14
def T210_12 : List Tok := (.if_icmp .le 6, 3, 0, 0) :: T210_13
def T210_11 : List Tok := (.sipush 220, 3, 0, 0) :: T210_12
def T210_10 : List Tok := (.iadd, 1, 0, 0) :: T210_11
def T210_9 : List Tok := (.iload_n 3, 1, 0, 0) :: T210_10
def T210_8 : List Tok := (.getfield 109, 3, 708, 1349) :: T210_9
def T210_7 : List Tok := (.aload_n 0, 1, 0, 0) :: T210_8
def T210_6 : List Tok := (.ireturn, 1, 0, 0) :: T210_7
def T210_5 : List Tok := (.iconst (-1), 1, 0, 0) :: T210_6
def T210_4 : List Tok := (.ifCond .ne 5, 3, 0, 0) :: T210_5
def T210_3 : List Tok := (.invokestatic 64, 3, 184, 1491) :: T210_4
def T210_2 : List Tok := (.bipush 8, 2, 0, 0) :: T210_3
def T210_1 : List Tok := (.iconst 1, 1, 0, 0) :: T210_2
def T210_0 : List Tok := (.iload_n 3, 1, 0, 0) :: T210_1
theorem o210_0 (hB : BytesOK) : okL 210 0 T210_0 = true := by
  have h := hB.1 210
  rw [show tk 210 = T210_0 from by decide +kernel] at h
  exact h
theorem o210_1 (hB : BytesOK) : okL 210 1 T210_1 = true := (okL_c (o210_0 hB)).2.2
theorem o210_2 (hB : BytesOK) : okL 210 2 T210_2 = true := (okL_c (o210_1 hB)).2.2
theorem o210_3 (hB : BytesOK) : okL 210 4 T210_3 = true := (okL_c (o210_2 hB)).2.2
theorem o210_4 (hB : BytesOK) : okL 210 7 T210_4 = true := (okL_c (o210_3 hB)).2.2
theorem o210_5 (hB : BytesOK) : okL 210 10 T210_5 = true := (okL_c (o210_4 hB)).2.2
theorem o210_6 (hB : BytesOK) : okL 210 11 T210_6 = true := (okL_c (o210_5 hB)).2.2
theorem o210_7 (hB : BytesOK) : okL 210 12 T210_7 = true := (okL_c (o210_6 hB)).2.2
theorem o210_8 (hB : BytesOK) : okL 210 13 T210_8 = true := (okL_c (o210_7 hB)).2.2
theorem o210_9 (hB : BytesOK) : okL 210 16 T210_9 = true := (okL_c (o210_8 hB)).2.2
theorem o210_10 (hB : BytesOK) : okL 210 17 T210_10 = true := (okL_c (o210_9 hB)).2.2
theorem o210_11 (hB : BytesOK) : okL 210 18 T210_11 = true := (okL_c (o210_10 hB)).2.2
theorem o210_12 (hB : BytesOK) : okL 210 21 T210_12 = true := (okL_c (o210_11 hB)).2.2
theorem o210_13 (hB : BytesOK) : okL 210 24 T210_13 = true := (okL_c (o210_12 hB)).2.2
theorem o210_14 (hB : BytesOK) : okL 210 26 T210_14 = true := (okL_c (o210_13 hB)).2.2
theorem o210_15 (hB : BytesOK) : okL 210 27 T210_15 = true := (okL_c (o210_14 hB)).2.2
theorem o210_16 (hB : BytesOK) : okL 210 28 T210_16 = true := (okL_c (o210_15 hB)).2.2
theorem o210_17 (hB : BytesOK) : okL 210 30 T210_17 = true := (okL_c (o210_16 hB)).2.2
theorem o210_18 (hB : BytesOK) : okL 210 32 T210_18 = true := (okL_c (o210_17 hB)).2.2
theorem o210_19 (hB : BytesOK) : okL 210 33 T210_19 = true := (okL_c (o210_18 hB)).2.2
theorem o210_20 (hB : BytesOK) : okL 210 36 T210_20 = true := (okL_c (o210_19 hB)).2.2
theorem o210_21 (hB : BytesOK) : okL 210 37 T210_21 = true := (okL_c (o210_20 hB)).2.2
theorem o210_22 (hB : BytesOK) : okL 210 40 T210_22 = true := (okL_c (o210_21 hB)).2.2
theorem o210_23 (hB : BytesOK) : okL 210 41 T210_23 = true := (okL_c (o210_22 hB)).2.2
theorem o210_24 (hB : BytesOK) : okL 210 44 T210_24 = true := (okL_c (o210_23 hB)).2.2
theorem o210_25 (hB : BytesOK) : okL 210 45 T210_25 = true := (okL_c (o210_24 hB)).2.2
theorem o210_26 (hB : BytesOK) : okL 210 47 T210_26 = true := (okL_c (o210_25 hB)).2.2
theorem o210_27 (hB : BytesOK) : okL 210 49 T210_27 = true := (okL_c (o210_26 hB)).2.2
theorem o210_28 (hB : BytesOK) : okL 210 50 T210_28 = true := (okL_c (o210_27 hB)).2.2
theorem o210_29 (hB : BytesOK) : okL 210 51 T210_29 = true := (okL_c (o210_28 hB)).2.2
theorem o210_30 (hB : BytesOK) : okL 210 54 T210_30 = true := (okL_c (o210_29 hB)).2.2
theorem o210_31 (hB : BytesOK) : okL 210 55 T210_31 = true := (okL_c (o210_30 hB)).2.2
theorem o210_32 (hB : BytesOK) : okL 210 56 T210_32 = true := (okL_c (o210_31 hB)).2.2
theorem o210_33 (hB : BytesOK) : okL 210 57 T210_33 = true := (okL_c (o210_32 hB)).2.2
theorem o210_34 (hB : BytesOK) : okL 210 58 T210_34 = true := (okL_c (o210_33 hB)).2.2
theorem o210_35 (hB : BytesOK) : okL 210 59 T210_35 = true := (okL_c (o210_34 hB)).2.2
theorem o210_36 (hB : BytesOK) : okL 210 62 T210_36 = true := (okL_c (o210_35 hB)).2.2
theorem o210_37 (hB : BytesOK) : okL 210 63 T210_37 = true := (okL_c (o210_36 hB)).2.2
theorem o210_38 (hB : BytesOK) : okL 210 64 T210_38 = true := (okL_c (o210_37 hB)).2.2
theorem o210_39 (hB : BytesOK) : okL 210 67 T210_39 = true := (okL_c (o210_38 hB)).2.2
theorem o210_40 (hB : BytesOK) : okL 210 70 T210_40 = true := (okL_c (o210_39 hB)).2.2
theorem o210_41 (hB : BytesOK) : okL 210 73 T210_41 = true := (okL_c (o210_40 hB)).2.2
theorem o210_42 (hB : BytesOK) : okL 210 74 T210_42 = true := (okL_c (o210_41 hB)).2.2
theorem o210_43 (hB : BytesOK) : okL 210 77 T210_43 = true := (okL_c (o210_42 hB)).2.2
theorem ml210 : mml 210 = 5 := by decide +kernel
theorem mr210 : mret 210 = some .int := by decide +kernel
theorem mg210 : kGood 210 = true := by decide +kernel

def T211_22 : List Tok := []
def T211_21 : List Tok := (.ireturn, 1, 0, 0) :: T211_22
def T211_20 : List Tok := (.iaload, 1, 0, 0) :: T211_21
def T211_19 : List Tok := (.iadd, 1, 0, 0) :: T211_20
def T211_18 : List Tok := (.iload_n 1, 1, 0, 0) :: T211_19
def T211_17 : List Tok := (.getfield 118, 3, 710, 1351) :: T211_18
def T211_16 : List Tok := (.aload_n 0, 1, 0, 0) :: T211_17
def T211_15 : List Tok := (.getfield 7, 3, 704, 1345) :: T211_16
def T211_14 : List Tok := (.aload_n 0, 1, 0, 0) :: T211_15
def T211_13 : List Tok := (.goto 14, 3, 0, 0) :: T211_14
def T211_12 : List Tok := (.iaload, 1, 0, 0) :: T211_13
def T211_11 : List Tok := (.iload_n 1, 1, 0, 0) :: T211_12
def T211_10 : List Tok := (.getfield 16, 3, 707, 1348) :: T211_11
def T211_9 : List Tok := (.aload_n 0, 1, 0, 0) :: T211_10
def T211_8 : List Tok := (.ifCond .ge 12, 3, 0, 0) :: T211_9
def T211_7 : List Tok := (.getfield 118, 3, 710, 1351) :: T211_8
def T211_6 : List Tok := (.aload_n 0, 1, 0, 0) :: T211_7
def T211_5 : List Tok := (.goto 30, 3, 0, 0) :: T211_6
def T211_4 : List Tok := (.iconst (-1), 1, 0, 0) :: T211_5
def T211_3 : List Tok := (.if_icmp .lt 7, 3, 0, 0) :: T211_4
def T211_2 : List Tok := (.getfield 115, 3, 711, 1352) :: T211_3
def T211_1 : List Tok := (.aload_n 0, 1, 0, 0) :: T211_2
def T211_0 : List Tok := (.iload_n 1, 1, 0, 0) :: T211_1
theorem o211_0 (hB : BytesOK) : okL 211 0 T211_0 = true := by
  have h := hB.1 211
  rw [show tk 211 = T211_0 from by decide +kernel] at h
  exact h
theorem o211_1 (hB : BytesOK) : okL 211 1 T211_1 = true := (okL_c (o211_0 hB)).2.2
theorem o211_2 (hB : BytesOK) : okL 211 2 T211_2 = true := (okL_c (o211_1 hB)).2.2
theorem o211_3 (hB : BytesOK) : okL 211 5 T211_3 = true := (okL_c (o211_2 hB)).2.2
theorem o211_4 (hB : BytesOK) : okL 211 8 T211_4 = true := (okL_c (o211_3 hB)).2.2
theorem o211_5 (hB : BytesOK) : okL 211 9 T211_5 = true := (okL_c (o211_4 hB)).2.2
theorem o211_6 (hB : BytesOK) : okL 211 12 T211_6 = true := (okL_c (o211_5 hB)).2.2
theorem o211_7 (hB : BytesOK) : okL 211 13 T211_7 = true := (okL_c (o211_6 hB)).2.2
theorem o211_8 (hB : BytesOK) : okL 211 16 T211_8 = true := (okL_c (o211_7 hB)).2.2
theorem o211_9 (hB : BytesOK) : okL 211 19 T211_9 = true := (okL_c (o211_8 hB)).2.2
theorem o211_10 (hB : BytesOK) : okL 211 20 T211_10 = true := (okL_c (o211_9 hB)).2.2
theorem o211_11 (hB : BytesOK) : okL 211 23 T211_11 = true := (okL_c (o211_10 hB)).2.2
theorem o211_12 (hB : BytesOK) : okL 211 24 T211_12 = true := (okL_c (o211_11 hB)).2.2
theorem o211_13 (hB : BytesOK) : okL 211 25 T211_13 = true := (okL_c (o211_12 hB)).2.2
theorem o211_14 (hB : BytesOK) : okL 211 28 T211_14 = true := (okL_c (o211_13 hB)).2.2
theorem o211_15 (hB : BytesOK) : okL 211 29 T211_15 = true := (okL_c (o211_14 hB)).2.2
theorem o211_16 (hB : BytesOK) : okL 211 32 T211_16 = true := (okL_c (o211_15 hB)).2.2
theorem o211_17 (hB : BytesOK) : okL 211 33 T211_17 = true := (okL_c (o211_16 hB)).2.2
theorem o211_18 (hB : BytesOK) : okL 211 36 T211_18 = true := (okL_c (o211_17 hB)).2.2
theorem o211_19 (hB : BytesOK) : okL 211 37 T211_19 = true := (okL_c (o211_18 hB)).2.2
theorem o211_20 (hB : BytesOK) : okL 211 38 T211_20 = true := (okL_c (o211_19 hB)).2.2
theorem o211_21 (hB : BytesOK) : okL 211 39 T211_21 = true := (okL_c (o211_20 hB)).2.2
theorem ml211 : mml 211 = 2 := by decide +kernel
theorem mr211 : mret 211 = some .int := by decide +kernel
theorem mg211 : kGood 211 = true := by decide +kernel

def T212_140 : List Tok := []
def T212_139 : List Tok := (.return_, 1, 0, 0) :: T212_140
def T212_138 : List Tok := (.putfield 130, 3, 714, 1355) :: T212_139
def T212_137 : List Tok := (.iconst 1, 1, 0, 0) :: T212_138
def T212_136 : List Tok := (.goto 4, 3, 0, 0) :: T212_137
def T212_135 : List Tok := (.iload_n 1, 1, 0, 0) :: T212_136
def T212_134 : List Tok := (.if_icmp .ne 7, 3, 0, 0) :: T212_135
def T212_133 : List Tok := (.bipush 62, 2, 0, 0) :: T212_134
def T212_132 : List Tok := (.iload_n 1, 1, 0, 0) :: T212_133
def T212_131 : List Tok := (.if_icmp .eq 9, 3, 0, 0) :: T212_132
def T212_130 : List Tok := (.bipush 61, 2, 0, 0) :: T212_131
def T212_129 : List Tok := (.iload_n 1, 1, 0, 0) :: T212_130
def T212_128 : List Tok := (.if_icmp .eq 15, 3, 0, 0) :: T212_129
def T212_127 : List Tok := (.bipush 60, 2, 0, 0) :: T212_128
def T212_126 : List Tok := (.iload_n 1, 1, 0, 0) :: T212_127
def T212_125 : List Tok := (.if_icmp .eq 21, 3, 0, 0) :: T212_126
def T212_124 : List Tok := (.bipush 41, 2, 0, 0) :: T212_125
def T212_123 : List Tok := (.iload_n 1, 1, 0, 0) :: T212_124
def T212_122 : List Tok := (.if_icmp .eq 27, 3, 0, 0) :: T212_123
def T212_121 : List Tok := (.bipush 40, 2, 0, 0) :: T212_122
def T212_120 : List Tok := (.iload_n 1, 1, 0, 0) :: T212_121
def T212_119 : List Tok := (.if_icmp .eq 33, 3, 0, 0) :: T212_120
def T212_118 : List Tok := (.bipush 59, 2, 0, 0) :: T212_119
def T212_117 : List Tok := (.iload_n 1, 1, 0, 0) :: T212_118
def T212_116 : List Tok := (.aload_n 0, 1, 0, 0) :: T212_117
def T212_115 : List Tok := (.putfield 121, 3, 712, 1353) :: T212_116
def T212_114 : List Tok := (.iadd, 1, 0, 0) :: T212_115
def T212_113 : List Tok := (.iconst 1, 1, 0, 0) :: T212_114
def T212_112 : List Tok := (.getfield 121, 3, 712, 1353) :: T212_113
def T212_111 : List Tok := (.dup, 1, 0, 0) :: T212_112
def T212_110 : List Tok := (.aload_n 0, 1, 0, 0) :: T212_111
def T212_109 : List Tok := (.goto 58, 3, 0, 0) :: T212_110
def T212_108 : List Tok := (.invokevirtual 136, 3, 213, 1604) :: T212_109
def T212_107 : List Tok := (.aload_n 0, 1, 0, 0) :: T212_108
def T212_106 : List Tok := (.goto (-28), 3, 0, 0) :: T212_107
def T212_105 : List Tok := (.putfield 121, 3, 712, 1353) :: T212_106
def T212_104 : List Tok := (.iadd, 1, 0, 0) :: T212_105
def T212_103 : List Tok := (.iconst 1, 1, 0, 0) :: T212_104
def T212_102 : List Tok := (.getfield 121, 3, 712, 1353) :: T212_103
def T212_101 : List Tok := (.dup, 1, 0, 0) :: T212_102
def T212_100 : List Tok := (.aload_n 0, 1, 0, 0) :: T212_101
def T212_99 : List Tok := (.ifCond .eq 16, 3, 0, 0) :: T212_100
def T212_98 : List Tok := (.invokestatic 64, 3, 184, 1491) :: T212_99
def T212_97 : List Tok := (.bipush 122, 2, 0, 0) :: T212_98
def T212_96 : List Tok := (.bipush 97, 2, 0, 0) :: T212_97
def T212_95 : List Tok := (.invokevirtual 124, 3, 211, 1600) :: T212_96
def T212_94 : List Tok := (.getfield 121, 3, 712, 1353) :: T212_95
def T212_93 : List Tok := (.aload_n 0, 1, 0, 0) :: T212_94
def T212_92 : List Tok := (.aload_n 0, 1, 0, 0) :: T212_93
def T212_91 : List Tok := (.ifCond .eq 41, 3, 0, 0) :: T212_92
def T212_90 : List Tok := (.invokestatic 64, 3, 184, 1491) :: T212_91
def T212_89 : List Tok := (.bipush 122, 2, 0, 0) :: T212_90
def T212_88 : List Tok := (.bipush 97, 2, 0, 0) :: T212_89
def T212_87 : List Tok := (.iload_n 1, 1, 0, 0) :: T212_88
def T212_86 : List Tok := (.goto 107, 3, 0, 0) :: T212_87
def T212_85 : List Tok := (.putfield 130, 3, 714, 1355) :: T212_86
def T212_84 : List Tok := (.iconst 3, 1, 0, 0) :: T212_85
def T212_83 : List Tok := (.goto 4, 3, 0, 0) :: T212_84
def T212_82 : List Tok := (.iconst 1, 1, 0, 0) :: T212_83
def T212_81 : List Tok := (.if_icmp .le 7, 3, 0, 0) :: T212_82
def T212_80 : List Tok := (.iconst 3, 1, 0, 0) :: T212_81
def T212_79 : List Tok := (.isub, 1, 0, 0) :: T212_80
def T212_78 : List Tok := (.getfield 127, 3, 713, 1354) :: T212_79
def T212_77 : List Tok := (.aload_n 0, 1, 0, 0) :: T212_78
def T212_76 : List Tok := (.getfield 121, 3, 712, 1353) :: T212_77
def T212_75 : List Tok := (.aload_n 0, 1, 0, 0) :: T212_76
def T212_74 : List Tok := (.aload_n 0, 1, 0, 0) :: T212_75
def T212_73 : List Tok := (.goto (-71), 3, 0, 0) :: T212_74
def T212_72 : List Tok := (.putfield 121, 3, 712, 1353) :: T212_73
def T212_71 : List Tok := (.iadd, 1, 0, 0) :: T212_72
def T212_70 : List Tok := (.iconst 1, 1, 0, 0) :: T212_71
def T212_69 : List Tok := (.getfield 121, 3, 712, 1353) :: T212_70
def T212_68 : List Tok := (.dup, 1, 0, 0) :: T212_69
def T212_67 : List Tok := (.aload_n 0, 1, 0, 0) :: T212_68
def T212_66 : List Tok := (.putfield 133, 3, 715, 1356) :: T212_67
def T212_65 : List Tok := (.getfield 133, 3, 715, 1356) :: T212_66
def T212_64 : List Tok := (.aload_n 0, 1, 0, 0) :: T212_65
def T212_63 : List Tok := (.goto 7, 3, 0, 0) :: T212_64
def T212_62 : List Tok := (.isub, 1, 0, 0) :: T212_63
def T212_61 : List Tok := (.bipush 48, 2, 0, 0) :: T212_62
def T212_60 : List Tok := (.iadd, 1, 0, 0) :: T212_61
def T212_59 : List Tok := (.invokevirtual 124, 3, 211, 1600) :: T212_60
def T212_58 : List Tok := (.getfield 121, 3, 712, 1353) :: T212_59
def T212_57 : List Tok := (.aload_n 0, 1, 0, 0) :: T212_58
def T212_56 : List Tok := (.aload_n 0, 1, 0, 0) :: T212_57
def T212_55 : List Tok := (.imul, 1, 0, 0) :: T212_56
def T212_54 : List Tok := (.getfield 133, 3, 715, 1356) :: T212_55
def T212_53 : List Tok := (.aload_n 0, 1, 0, 0) :: T212_54
def T212_52 : List Tok := (.bipush 10, 2, 0, 0) :: T212_53
def T212_51 : List Tok := (.if_icmp .ge 25, 3, 0, 0) :: T212_52
def T212_50 : List Tok := (.iconst 3, 1, 0, 0) :: T212_51
def T212_49 : List Tok := (.isub, 1, 0, 0) :: T212_50
def T212_48 : List Tok := (.getfield 127, 3, 713, 1354) :: T212_49
def T212_47 : List Tok := (.aload_n 0, 1, 0, 0) :: T212_48
def T212_46 : List Tok := (.getfield 121, 3, 712, 1353) :: T212_47
def T212_45 : List Tok := (.aload_n 0, 1, 0, 0) :: T212_46
def T212_44 : List Tok := (.aload_n 0, 1, 0, 0) :: T212_45
def T212_43 : List Tok := (.ifCond .eq 59, 3, 0, 0) :: T212_44
def T212_42 : List Tok := (.invokestatic 64, 3, 184, 1491) :: T212_43
def T212_41 : List Tok := (.bipush 57, 2, 0, 0) :: T212_42
def T212_40 : List Tok := (.bipush 48, 2, 0, 0) :: T212_41
def T212_39 : List Tok := (.invokevirtual 124, 3, 211, 1600) :: T212_40
def T212_38 : List Tok := (.getfield 121, 3, 712, 1353) :: T212_39
def T212_37 : List Tok := (.aload_n 0, 1, 0, 0) :: T212_38
def T212_36 : List Tok := (.aload_n 0, 1, 0, 0) :: T212_37
def T212_35 : List Tok := (.putfield 133, 3, 715, 1356) :: T212_36
def T212_34 : List Tok := (.iconst 0, 1, 0, 0) :: T212_35
def T212_33 : List Tok := (.aload_n 0, 1, 0, 0) :: T212_34
def T212_32 : List Tok := (.ifCond .eq 107, 3, 0, 0) :: T212_33
def T212_31 : List Tok := (.invokestatic 64, 3, 184, 1491) :: T212_32
def T212_30 : List Tok := (.bipush 57, 2, 0, 0) :: T212_31
def T212_29 : List Tok := (.bipush 48, 2, 0, 0) :: T212_30
def T212_28 : List Tok := (.iload_n 1, 1, 0, 0) :: T212_29
def T212_27 : List Tok := (.goto 222, 3, 0, 0) :: T212_28
def T212_26 : List Tok := (.putfield 130, 3, 714, 1355) :: T212_27
def T212_25 : List Tok := (.iconst 0, 1, 0, 0) :: T212_26
def T212_24 : List Tok := (.aload_n 0, 1, 0, 0) :: T212_25
def T212_23 : List Tok := (.ifCond .ge 11, 3, 0, 0) :: T212_24
def T212_22 : List Tok := (.iload_n 1, 1, 0, 0) :: T212_23
def T212_21 : List Tok := (.istore_n 1, 1, 0, 0) :: T212_22
def T212_20 : List Tok := (.invokevirtual 124, 3, 211, 1600) :: T212_21
def T212_19 : List Tok := (.getfield 121, 3, 712, 1353) :: T212_20
def T212_18 : List Tok := (.aload_n 0, 1, 0, 0) :: T212_19
def T212_17 : List Tok := (.aload_n 0, 1, 0, 0) :: T212_18
def T212_16 : List Tok := (.putfield 127, 3, 713, 1354) :: T212_17
def T212_15 : List Tok := (.getfield 121, 3, 712, 1353) :: T212_16
def T212_14 : List Tok := (.aload_n 0, 1, 0, 0) :: T212_15
def T212_13 : List Tok := (.aload_n 0, 1, 0, 0) :: T212_14
def T212_12 : List Tok := (.goto (-23), 3, 0, 0) :: T212_13
def T212_11 : List Tok := (.putfield 121, 3, 712, 1353) :: T212_12
def T212_10 : List Tok := (.iadd, 1, 0, 0) :: T212_11
def T212_9 : List Tok := (.iconst 1, 1, 0, 0) :: T212_10
def T212_8 : List Tok := (.getfield 121, 3, 712, 1353) :: T212_9
def T212_7 : List Tok := (.dup, 1, 0, 0) :: T212_8
def T212_6 : List Tok := (.aload_n 0, 1, 0, 0) :: T212_7
def T212_5 : List Tok := (.if_icmp .ne 16, 3, 0, 0) :: T212_6
def T212_4 : List Tok := (.bipush 32, 2, 0, 0) :: T212_5
def T212_3 : List Tok := (.invokevirtual 124, 3, 211, 1600) :: T212_4
def T212_2 : List Tok := (.getfield 121, 3, 712, 1353) :: T212_3
def T212_1 : List Tok := (.aload_n 0, 1, 0, 0) :: T212_2
def T212_0 : List Tok := (.aload_n 0, 1, 0, 0) :: T212_1
theorem o212_0 (hB : BytesOK) : okL 212 0 T212_0 = true := by
  have h := hB.1 212
  rw [show tk 212 = T212_0 from by decide +kernel] at h
  exact h
theorem o212_1 (hB : BytesOK) : okL 212 1 T212_1 = true := (okL_c (o212_0 hB)).2.2
theorem o212_2 (hB : BytesOK) : okL 212 2 T212_2 = true := (okL_c (o212_1 hB)).2.2
theorem o212_3 (hB : BytesOK) : okL 212 5 T212_3 = true := (okL_c (o212_2 hB)).2.2
theorem o212_4 (hB : BytesOK) : okL 212 8 T212_4 = true := (okL_c (o212_3 hB)).2.2
theorem o212_5 (hB : BytesOK) : okL 212 10 T212_5 = true := (okL_c (o212_4 hB)).2.2
theorem o212_6 (hB : BytesOK) : okL 212 13 T212_6 = true := (okL_c (o212_5 hB)).2.2
theorem o212_7 (hB : BytesOK) : okL 212 14 T212_7 = true := (okL_c (o212_6 hB)).2.2
theorem o212_8 (hB : BytesOK) : okL 212 15 T212_8 = true := (okL_c (o212_7 hB)).2.2
theorem o212_9 (hB : BytesOK) : okL 212 18 T212_9 = true := (okL_c (o212_8 hB)).2.2
theorem o212_10 (hB : BytesOK) : okL 212 19 T212_10 = true := (okL_c (o212_9 hB)).2.2
theorem o212_11 (hB : BytesOK) : okL 212 20 T212_11 = true := (okL_c (o212_10 hB)).2.2
theorem o212_12 (hB : BytesOK) : okL 212 23 T212_12 = true := (okL_c (o212_11 hB)).2.2
theorem o212_13 (hB : BytesOK) : okL 212 26 T212_13 = true := (okL_c (o212_12 hB)).2.2
theorem o212_14 (hB : BytesOK) : okL 212 27 T212_14 = true := (okL_c (o212_13 hB)).2.2
theorem o212_15 (hB : BytesOK) : okL 212 28 T212_15 = true := (okL_c (o212_14 hB)).2.2
theorem o212_16 (hB : BytesOK) : okL 212 31 T212_16 = true := (okL_c (o212_15 hB)).2.2
theorem o212_17 (hB : BytesOK) : okL 212 34 T212_17 = true := (okL_c (o212_16 hB)).2.2
theorem o212_18 (hB : BytesOK) : okL 212 35 T212_18 = true := (okL_c (o212_17 hB)).2.2
theorem o212_19 (hB : BytesOK) : okL 212 36 T212_19 = true := (okL_c (o212_18 hB)).2.2
theorem o212_20 (hB : BytesOK) : okL 212 39 T212_20 = true := (okL_c (o212_19 hB)).2.2
theorem o212_21 (hB : BytesOK) : okL 212 42 T212_21 = true := (okL_c (o212_20 hB)).2.2
theorem o212_22 (hB : BytesOK) : okL 212 43 T212_22 = true := (okL_c (o212_21 hB)).2.2
theorem o212_23 (hB : BytesOK) : okL 212 44 T212_23 = true := (okL_c (o212_22 hB)).2.2
theorem o212_24 (hB : BytesOK) : okL 212 47 T212_24 = true := (okL_c (o212_23 hB)).2.2
theorem o212_25 (hB : BytesOK) : okL 212 48 T212_25 = true := (okL_c (o212_24 hB)).2.2
theorem o212_26 (hB : BytesOK) : okL 212 49 T212_26 = true := (okL_c (o212_25 hB)).2.2
theorem o212_27 (hB : BytesOK) : okL 212 52 T212_27 = true := (okL_c (o212_26 hB)).2.2
theorem o212_28 (hB : BytesOK) : okL 212 55 T212_28 = true := (okL_c (o212_27 hB)).2.2
theorem o212_29 (hB : BytesOK) : okL 212 56 T212_29 = true := (okL_c (o212_28 hB)).2.2
theorem o212_30 (hB : BytesOK) : okL 212 58 T212_30 = true := (okL_c (o212_29 hB)).2.2
theorem o212_31 (hB : BytesOK) : okL 212 60 T212_31 = true := (okL_c (o212_30 hB)).2.2
theorem o212_32 (hB : BytesOK) : okL 212 63 T212_32 = true := (okL_c (o212_31 hB)).2.2
theorem o212_33 (hB : BytesOK) : okL 212 66 T212_33 = true := (okL_c (o212_32 hB)).2.2
theorem o212_34 (hB : BytesOK) : okL 212 67 T212_34 = true := (okL_c (o212_33 hB)).2.2
theorem o212_35 (hB : BytesOK) : okL 212 68 T212_35 = true := (okL_c (o212_34 hB)).2.2
theorem o212_36 (hB : BytesOK) : okL 212 71 T212_36 = true := (okL_c (o212_35 hB)).2.2
theorem o212_37 (hB : BytesOK) : okL 212 72 T212_37 = true := (okL_c (o212_36 hB)).2.2
theorem o212_38 (hB : BytesOK) : okL 212 73 T212_38 = true := (okL_c (o212_37 hB)).2.2
theorem o212_39 (hB : BytesOK) : okL 212 76 T212_39 = true := (okL_c (o212_38 hB)).2.2
theorem o212_40 (hB : BytesOK) : okL 212 79 T212_40 = true := (okL_c (o212_39 hB)).2.2
theorem o212_41 (hB : BytesOK) : okL 212 81 T212_41 = true := (okL_c (o212_40 hB)).2.2
theorem o212_42 (hB : BytesOK) : okL 212 83 T212_42 = true := (okL_c (o212_41 hB)).2.2
theorem o212_43 (hB : BytesOK) : okL 212 86 T212_43 = true := (okL_c (o212_42 hB)).2.2
theorem o212_44 (hB : BytesOK) : okL 212 89 T212_44 = true := (okL_c (o212_43 hB)).2.2
theorem o212_45 (hB : BytesOK) : okL 212 90 T212_45 = true := (okL_c (o212_44 hB)).2.2
theorem o212_46 (hB : BytesOK) : okL 212 91 T212_46 = true := (okL_c (o212_45 hB)).2.2
theorem o212_47 (hB : BytesOK) : okL 212 94 T212_47 = true := (okL_c (o212_46 hB)).2.2
theorem o212_48 (hB : BytesOK) : okL 212 95 T212_48 = true := (okL_c (o212_47 hB)).2.2
theorem o212_49 (hB : BytesOK) : okL 212 98 T212_49 = true := (okL_c (o212_48 hB)).2.2
theorem o212_50 (hB : BytesOK) : okL 212 99 T212_50 = true := (okL_c (o212_49 hB)).2.2
theorem o212_51 (hB : BytesOK) : okL 212 100 T212_51 = true := (okL_c (o212_50 hB)).2.2
theorem o212_52 (hB : BytesOK) : okL 212 103 T212_52 = true := (okL_c (o212_51 hB)).2.2
theorem o212_53 (hB : BytesOK) : okL 212 105 T212_53 = true := (okL_c (o212_52 hB)).2.2
theorem o212_54 (hB : BytesOK) : okL 212 106 T212_54 = true := (okL_c (o212_53 hB)).2.2
theorem o212_55 (hB : BytesOK) : okL 212 109 T212_55 = true := (okL_c (o212_54 hB)).2.2
theorem o212_56 (hB : BytesOK) : okL 212 110 T212_56 = true := (okL_c (o212_55 hB)).2.2
theorem o212_57 (hB : BytesOK) : okL 212 111 T212_57 = true := (okL_c (o212_56 hB)).2.2
theorem o212_58 (hB : BytesOK) : okL 212 112 T212_58 = true := (okL_c (o212_57 hB)).2.2
theorem o212_59 (hB : BytesOK) : okL 212 115 T212_59 = true := (okL_c (o212_58 hB)).2.2
theorem o212_60 (hB : BytesOK) : okL 212 118 T212_60 = true := (okL_c (o212_59 hB)).2.2
theorem o212_61 (hB : BytesOK) : okL 212 119 T212_61 = true := (okL_c (o212_60 hB)).2.2
theorem o212_62 (hB : BytesOK) : okL 212 121 T212_62 = true := (okL_c (o212_61 hB)).2.2
theorem o212_63 (hB : BytesOK) : okL 212 122 T212_63 = true := (okL_c (o212_62 hB)).2.2
theorem o212_64 (hB : BytesOK) : okL 212 125 T212_64 = true := (okL_c (o212_63 hB)).2.2
theorem o212_65 (hB : BytesOK) : okL 212 126 T212_65 = true := (okL_c (o212_64 hB)).2.2
theorem o212_66 (hB : BytesOK) : okL 212 129 T212_66 = true := (okL_c (o212_65 hB)).2.2
theorem o212_67 (hB : BytesOK) : okL 212 132 T212_67 = true := (okL_c (o212_66 hB)).2.2
theorem o212_68 (hB : BytesOK) : okL 212 133 T212_68 = true := (okL_c (o212_67 hB)).2.2
theorem o212_69 (hB : BytesOK) : okL 212 134 T212_69 = true := (okL_c (o212_68 hB)).2.2
theorem o212_70 (hB : BytesOK) : okL 212 137 T212_70 = true := (okL_c (o212_69 hB)).2.2
theorem o212_71 (hB : BytesOK) : okL 212 138 T212_71 = true := (okL_c (o212_70 hB)).2.2
theorem o212_72 (hB : BytesOK) : okL 212 139 T212_72 = true := (okL_c (o212_71 hB)).2.2
theorem o212_73 (hB : BytesOK) : okL 212 142 T212_73 = true := (okL_c (o212_72 hB)).2.2
theorem o212_74 (hB : BytesOK) : okL 212 145 T212_74 = true := (okL_c (o212_73 hB)).2.2
theorem o212_75 (hB : BytesOK) : okL 212 146 T212_75 = true := (okL_c (o212_74 hB)).2.2
theorem o212_76 (hB : BytesOK) : okL 212 147 T212_76 = true := (okL_c (o212_75 hB)).2.2
theorem o212_77 (hB : BytesOK) : okL 212 150 T212_77 = true := (okL_c (o212_76 hB)).2.2
theorem o212_78 (hB : BytesOK) : okL 212 151 T212_78 = true := (okL_c (o212_77 hB)).2.2
theorem o212_79 (hB : BytesOK) : okL 212 154 T212_79 = true := (okL_c (o212_78 hB)).2.2
theorem o212_80 (hB : BytesOK) : okL 212 155 T212_80 = true := (okL_c (o212_79 hB)).2.2
theorem o212_81 (hB : BytesOK) : okL 212 156 T212_81 = true := (okL_c (o212_80 hB)).2.2
theorem o212_82 (hB : BytesOK) : okL 212 159 T212_82 = true := (okL_c (o212_81 hB)).2.2
theorem o212_83 (hB : BytesOK) : okL 212 160 T212_83 = true := (okL_c (o212_82 hB)).2.2
theorem o212_84 (hB : BytesOK) : okL 212 163 T212_84 = true := (okL_c (o212_83 hB)).2.2
theorem o212_85 (hB : BytesOK) : okL 212 164 T212_85 = true := (okL_c (o212_84 hB)).2.2
theorem o212_86 (hB : BytesOK) : okL 212 167 T212_86 = true := (okL_c (o212_85 hB)).2.2
theorem o212_87 (hB : BytesOK) : okL 212 170 T212_87 = true := (okL_c (o212_86 hB)).2.2
theorem o212_88 (hB : BytesOK) : okL 212 171 T212_88 = true := (okL_c (o212_87 hB)).2.2
theorem o212_89 (hB : BytesOK) : okL 212 173 T212_89 = true := (okL_c (o212_88 hB)).2.2
theorem o212_90 (hB : BytesOK) : okL 212 175 T212_90 = true := (okL_c (o212_89 hB)).2.2
theorem o212_91 (hB : BytesOK) : okL 212 178 T212_91 = true := (okL_c (o212_90 hB)).2.2
theorem o212_92 (hB : BytesOK) : okL 212 181 T212_92 = true := (okL_c (o212_91 hB)).2.2
theorem o212_93 (hB : BytesOK) : okL 212 182 T212_93 = true := (okL_c (o212_92 hB)).2.2
theorem o212_94 (hB : BytesOK) : okL 212 183 T212_94 = true := (okL_c (o212_93 hB)).2.2
theorem o212_95 (hB : BytesOK) : okL 212 186 T212_95 = true := (okL_c (o212_94 hB)).2.2
theorem o212_96 (hB : BytesOK) : okL 212 189 T212_96 = true := (okL_c (o212_95 hB)).2.2
theorem o212_97 (hB : BytesOK) : okL 212 191 T212_97 = true := (okL_c (o212_96 hB)).2.2
theorem o212_98 (hB : BytesOK) : okL 212 193 T212_98 = true := (okL_c (o212_97 hB)).2.2
theorem o212_99 (hB : BytesOK) : okL 212 196 T212_99 = true := (okL_c (o212_98 hB)).2.2
theorem o212_100 (hB : BytesOK) : okL 212 199 T212_100 = true := (okL_c (o212_99 hB)).2.2
theorem o212_101 (hB : BytesOK) : okL 212 200 T212_101 = true := (okL_c (o212_100 hB)).2.2
theorem o212_102 (hB : BytesOK) : okL 212 201 T212_102 = true := (okL_c (o212_101 hB)).2.2
theorem o212_103 (hB : BytesOK) : okL 212 204 T212_103 = true := (okL_c (o212_102 hB)).2.2
theorem o212_104 (hB : BytesOK) : okL 212 205 T212_104 = true := (okL_c (o212_103 hB)).2.2
theorem o212_105 (hB : BytesOK) : okL 212 206 T212_105 = true := (okL_c (o212_104 hB)).2.2
theorem o212_106 (hB : BytesOK) : okL 212 209 T212_106 = true := (okL_c (o212_105 hB)).2.2
theorem o212_107 (hB : BytesOK) : okL 212 212 T212_107 = true := (okL_c (o212_106 hB)).2.2
theorem o212_108 (hB : BytesOK) : okL 212 213 T212_108 = true := (okL_c (o212_107 hB)).2.2
theorem o212_109 (hB : BytesOK) : okL 212 216 T212_109 = true := (okL_c (o212_108 hB)).2.2
theorem o212_110 (hB : BytesOK) : okL 212 219 T212_110 = true := (okL_c (o212_109 hB)).2.2
theorem o212_111 (hB : BytesOK) : okL 212 220 T212_111 = true := (okL_c (o212_110 hB)).2.2
theorem o212_112 (hB : BytesOK) : okL 212 221 T212_112 = true := (okL_c (o212_111 hB)).2.2
theorem o212_113 (hB : BytesOK) : okL 212 224 T212_113 = true := (okL_c (o212_112 hB)).2.2
theorem o212_114 (hB : BytesOK) : okL 212 225 T212_114 = true := (okL_c (o212_113 hB)).2.2
theorem o212_115 (hB : BytesOK) : okL 212 226 T212_115 = true := (okL_c (o212_114 hB)).2.2
theorem o212_116 (hB : BytesOK) : okL 212 229 T212_116 = true := (okL_c (o212_115 hB)).2.2
theorem o212_117 (hB : BytesOK) : okL 212 230 T212_117 = true := (okL_c (o212_116 hB)).2.2
theorem o212_118 (hB : BytesOK) : okL 212 231 T212_118 = true := (okL_c (o212_117 hB)).2.2
theorem o212_119 (hB : BytesOK) : okL 212 233 T212_119 = true := (okL_c (o212_118 hB)).2.2
theorem o212_120 (hB : BytesOK) : okL 212 236 T212_120 = true := (okL_c (o212_119 hB)).2.2
theorem o212_121 (hB : BytesOK) : okL 212 237 T212_121 = true := (okL_c (o212_120 hB)).2.2
theorem o212_122 (hB : BytesOK) : okL 212 239 T212_122 = true := (okL_c (o212_121 hB)).2.2
theorem o212_123 (hB : BytesOK) : okL 212 242 T212_123 = true := (okL_c (o212_122 hB)).2.2
theorem o212_124 (hB : BytesOK) : okL 212 243 T212_124 = true := (okL_c (o212_123 hB)).2.2
theorem o212_125 (hB : BytesOK) : okL 212 245 T212_125 = true := (okL_c (o212_124 hB)).2.2
theorem o212_126 (hB : BytesOK) : okL 212 248 T212_126 = true := (okL_c (o212_125 hB)).2.2
theorem o212_127 (hB : BytesOK) : okL 212 249 T212_127 = true := (okL_c (o212_126 hB)).2.2
theorem o212_128 (hB : BytesOK) : okL 212 251 T212_128 = true := (okL_c (o212_127 hB)).2.2
theorem o212_129 (hB : BytesOK) : okL 212 254 T212_129 = true := (okL_c (o212_128 hB)).2.2
theorem o212_130 (hB : BytesOK) : okL 212 255 T212_130 = true := (okL_c (o212_129 hB)).2.2
theorem o212_131 (hB : BytesOK) : okL 212 257 T212_131 = true := (okL_c (o212_130 hB)).2.2
theorem o212_132 (hB : BytesOK) : okL 212 260 T212_132 = true := (okL_c (o212_131 hB)).2.2
theorem o212_133 (hB : BytesOK) : okL 212 261 T212_133 = true := (okL_c (o212_132 hB)).2.2
theorem o212_134 (hB : BytesOK) : okL 212 263 T212_134 = true := (okL_c (o212_133 hB)).2.2
theorem o212_135 (hB : BytesOK) : okL 212 266 T212_135 = true := (okL_c (o212_134 hB)).2.2
theorem o212_136 (hB : BytesOK) : okL 212 267 T212_136 = true := (okL_c (o212_135 hB)).2.2
theorem o212_137 (hB : BytesOK) : okL 212 270 T212_137 = true := (okL_c (o212_136 hB)).2.2
theorem o212_138 (hB : BytesOK) : okL 212 271 T212_138 = true := (okL_c (o212_137 hB)).2.2
theorem o212_139 (hB : BytesOK) : okL 212 274 T212_139 = true := (okL_c (o212_138 hB)).2.2
theorem ml212 : mml 212 = 2 := by decide +kernel
theorem mr212 : mret 212 = none := by decide +kernel
theorem mg212 : kGood 212 = true := by decide +kernel

def T213_63 : List Tok := []
def T213_62 : List Tok := (.return_, 1, 0, 0) :: T213_63
def T213_61 : List Tok := (.goto (-94), 3, 0, 0) :: T213_62
def T213_60 : List Tok := (.iinc 4 1, 3, 0, 0) :: T213_61
def T213_59 : List Tok := (.iinc 2 1, 3, 0, 0) :: T213_60
def T213_58 : List Tok := (.istore_n 3, 1, 0, 0) :: T213_59
def T213_57 : List Tok := (.iconst 0, 1, 0, 0) :: T213_58
def T213_56 : List Tok := (.goto 4, 3, 0, 0) :: T213_57
def T213_55 : List Tok := (.iconst 1, 1, 0, 0) :: T213_56
def T213_54 : List Tok := (.if_icmp .ne 7, 3, 0, 0) :: T213_55
def T213_53 : List Tok := (.iaload, 1, 0, 0) :: T213_54
def T213_52 : List Tok := (.iload 4, 2, 0, 0) :: T213_53
def T213_51 : List Tok := (.getfield 19, 3, 709, 1350) :: T213_52
def T213_50 : List Tok := (.aload_n 0, 1, 0, 0) :: T213_51
def T213_49 : List Tok := (.invokevirtual 124, 3, 211, 1600) :: T213_50
def T213_48 : List Tok := (.iload_n 2, 1, 0, 0) :: T213_49
def T213_47 : List Tok := (.aload_n 0, 1, 0, 0) :: T213_48
def T213_46 : List Tok := (.if_icmp .ge 22, 3, 0, 0) :: T213_47
def T213_45 : List Tok := (.getfield 121, 3, 712, 1353) :: T213_46
def T213_44 : List Tok := (.aload_n 0, 1, 0, 0) :: T213_45
def T213_43 : List Tok := (.iload_n 2, 1, 0, 0) :: T213_44
def T213_42 : List Tok := (.ifCond .eq 30, 3, 0, 0) :: T213_43
def T213_41 : List Tok := (.iload_n 3, 1, 0, 0) :: T213_42
def T213_40 : List Tok := (.goto 39, 3, 0, 0) :: T213_41
def T213_39 : List Tok := (.istore_n 3, 1, 0, 0) :: T213_40
def T213_38 : List Tok := (.iconst 1, 1, 0, 0) :: T213_39
def T213_37 : List Tok := (.istore_n 2, 1, 0, 0) :: T213_38
def T213_36 : List Tok := (.getfield 127, 3, 713, 1354) :: T213_37
def T213_35 : List Tok := (.aload_n 0, 1, 0, 0) :: T213_36
def T213_34 : List Tok := (.iinc 1 1, 3, 0, 0) :: T213_35
def T213_33 : List Tok := (.putfield 133, 3, 715, 1356) :: T213_34
def T213_32 : List Tok := (.iload_n 1, 1, 0, 0) :: T213_33
def T213_31 : List Tok := (.aload_n 0, 1, 0, 0) :: T213_32
def T213_30 : List Tok := (.putfield 130, 3, 714, 1355) :: T213_31
def T213_29 : List Tok := (.iconst 2, 1, 0, 0) :: T213_30
def T213_28 : List Tok := (.aload_n 0, 1, 0, 0) :: T213_29
def T213_27 : List Tok := (.if_icmp .ne 13, 3, 0, 0) :: T213_28
def T213_26 : List Tok := (.getfield 121, 3, 712, 1353) :: T213_27
def T213_25 : List Tok := (.aload_n 0, 1, 0, 0) :: T213_26
def T213_24 : List Tok := (.iload_n 2, 1, 0, 0) :: T213_25
def T213_23 : List Tok := (.ifCond .eq 21, 3, 0, 0) :: T213_24
def T213_22 : List Tok := (.iload_n 3, 1, 0, 0) :: T213_23
def T213_21 : List Tok := (.ifCond .ne 38, 3, 0, 0) :: T213_22
def T213_20 : List Tok := (.iaload, 1, 0, 0) :: T213_21
def T213_19 : List Tok := (.iload 4, 2, 0, 0) :: T213_20
def T213_18 : List Tok := (.getfield 19, 3, 709, 1350) :: T213_19
def T213_17 : List Tok := (.aload_n 0, 1, 0, 0) :: T213_18
def T213_16 : List Tok := (.if_icmp .ge 90, 3, 0, 0) :: T213_17
def T213_15 : List Tok := (.arraylength, 1, 0, 0) :: T213_16
def T213_14 : List Tok := (.getfield 19, 3, 709, 1350) :: T213_15
def T213_13 : List Tok := (.aload_n 0, 1, 0, 0) :: T213_14
def T213_12 : List Tok := (.iload 4, 2, 0, 0) :: T213_13
def T213_11 : List Tok := (.istore 4, 2, 0, 0) :: T213_12
def T213_10 : List Tok := (.iconst 0, 1, 0, 0) :: T213_11
def T213_9 : List Tok := (.istore_n 3, 1, 0, 0) :: T213_10
def T213_8 : List Tok := (.iconst 1, 1, 0, 0) :: T213_9
def T213_7 : List Tok := (.istore_n 2, 1, 0, 0) :: T213_8
def T213_6 : List Tok := (.getfield 127, 3, 713, 1354) :: T213_7
def T213_5 : List Tok := (.aload_n 0, 1, 0, 0) :: T213_6
def T213_4 : List Tok := (.istore_n 1, 1, 0, 0) :: T213_5
def T213_3 : List Tok := (.iconst 0, 1, 0, 0) :: T213_4
def T213_2 : List Tok := (.putfield 130, 3, 714, 1355) :: T213_3
def T213_1 : List Tok := (.iconst 1, 1, 0, 0) :: T213_2
def T213_0 : List Tok := (.aload_n 0, 1, 0, 0) :: T213_1
theorem o213_0 (hB : BytesOK) : okL 213 0 T213_0 = true := by
  have h := hB.1 213
  rw [show tk 213 = T213_0 from by decide +kernel] at h
  exact h
theorem o213_1 (hB : BytesOK) : okL 213 1 T213_1 = true := (okL_c (o213_0 hB)).2.2
theorem o213_2 (hB : BytesOK) : okL 213 2 T213_2 = true := (okL_c (o213_1 hB)).2.2
theorem o213_3 (hB : BytesOK) : okL 213 5 T213_3 = true := (okL_c (o213_2 hB)).2.2
theorem o213_4 (hB : BytesOK) : okL 213 6 T213_4 = true := (okL_c (o213_3 hB)).2.2
theorem o213_5 (hB : BytesOK) : okL 213 7 T213_5 = true := (okL_c (o213_4 hB)).2.2
theorem o213_6 (hB : BytesOK) : okL 213 8 T213_6 = true := (okL_c (o213_5 hB)).2.2
theorem o213_7 (hB : BytesOK) : okL 213 11 T213_7 = true := (okL_c (o213_6 hB)).2.2
theorem o213_8 (hB : BytesOK) : okL 213 12 T213_8 = true := (okL_c (o213_7 hB)).2.2
theorem o213_9 (hB : BytesOK) : okL 213 13 T213_9 = true := (okL_c (o213_8 hB)).2.2
theorem o213_10 (hB : BytesOK) : okL 213 14 T213_10 = true := (okL_c (o213_9 hB)).2.2
theorem o213_11 (hB : BytesOK) : okL 213 15 T213_11 = true := (okL_c (o213_10 hB)).2.2
theorem o213_12 (hB : BytesOK) : okL 213 17 T213_12 = true := (okL_c (o213_11 hB)).2.2
theorem o213_13 (hB : BytesOK) : okL 213 19 T213_13 = true := (okL_c (o213_12 hB)).2.2
theorem o213_14 (hB : BytesOK) : okL 213 20 T213_14 = true := (okL_c (o213_13 hB)).2.2
theorem o213_15 (hB : BytesOK) : okL 213 23 T213_15 = true := (okL_c (o213_14 hB)).2.2
theorem o213_16 (hB : BytesOK) : okL 213 24 T213_16 = true := (okL_c (o213_15 hB)).2.2
theorem o213_17 (hB : BytesOK) : okL 213 27 T213_17 = true := (okL_c (o213_16 hB)).2.2
theorem o213_18 (hB : BytesOK) : okL 213 28 T213_18 = true := (okL_c (o213_17 hB)).2.2
theorem o213_19 (hB : BytesOK) : okL 213 31 T213_19 = true := (okL_c (o213_18 hB)).2.2
theorem o213_20 (hB : BytesOK) : okL 213 33 T213_20 = true := (okL_c (o213_19 hB)).2.2
theorem o213_21 (hB : BytesOK) : okL 213 34 T213_21 = true := (okL_c (o213_20 hB)).2.2
theorem o213_22 (hB : BytesOK) : okL 213 37 T213_22 = true := (okL_c (o213_21 hB)).2.2
theorem o213_23 (hB : BytesOK) : okL 213 38 T213_23 = true := (okL_c (o213_22 hB)).2.2
theorem o213_24 (hB : BytesOK) : okL 213 41 T213_24 = true := (okL_c (o213_23 hB)).2.2
theorem o213_25 (hB : BytesOK) : okL 213 42 T213_25 = true := (okL_c (o213_24 hB)).2.2
theorem o213_26 (hB : BytesOK) : okL 213 43 T213_26 = true := (okL_c (o213_25 hB)).2.2
theorem o213_27 (hB : BytesOK) : okL 213 46 T213_27 = true := (okL_c (o213_26 hB)).2.2
theorem o213_28 (hB : BytesOK) : okL 213 49 T213_28 = true := (okL_c (o213_27 hB)).2.2
theorem o213_29 (hB : BytesOK) : okL 213 50 T213_29 = true := (okL_c (o213_28 hB)).2.2
theorem o213_30 (hB : BytesOK) : okL 213 51 T213_30 = true := (okL_c (o213_29 hB)).2.2
theorem o213_31 (hB : BytesOK) : okL 213 54 T213_31 = true := (okL_c (o213_30 hB)).2.2
theorem o213_32 (hB : BytesOK) : okL 213 55 T213_32 = true := (okL_c (o213_31 hB)).2.2
theorem o213_33 (hB : BytesOK) : okL 213 56 T213_33 = true := (okL_c (o213_32 hB)).2.2
theorem o213_34 (hB : BytesOK) : okL 213 59 T213_34 = true := (okL_c (o213_33 hB)).2.2
theorem o213_35 (hB : BytesOK) : okL 213 62 T213_35 = true := (okL_c (o213_34 hB)).2.2
theorem o213_36 (hB : BytesOK) : okL 213 63 T213_36 = true := (okL_c (o213_35 hB)).2.2
theorem o213_37 (hB : BytesOK) : okL 213 66 T213_37 = true := (okL_c (o213_36 hB)).2.2
theorem o213_38 (hB : BytesOK) : okL 213 67 T213_38 = true := (okL_c (o213_37 hB)).2.2
theorem o213_39 (hB : BytesOK) : okL 213 68 T213_39 = true := (okL_c (o213_38 hB)).2.2
theorem o213_40 (hB : BytesOK) : okL 213 69 T213_40 = true := (okL_c (o213_39 hB)).2.2
theorem o213_41 (hB : BytesOK) : okL 213 72 T213_41 = true := (okL_c (o213_40 hB)).2.2
theorem o213_42 (hB : BytesOK) : okL 213 73 T213_42 = true := (okL_c (o213_41 hB)).2.2
theorem o213_43 (hB : BytesOK) : okL 213 76 T213_43 = true := (okL_c (o213_42 hB)).2.2
theorem o213_44 (hB : BytesOK) : okL 213 77 T213_44 = true := (okL_c (o213_43 hB)).2.2
theorem o213_45 (hB : BytesOK) : okL 213 78 T213_45 = true := (okL_c (o213_44 hB)).2.2
theorem o213_46 (hB : BytesOK) : okL 213 81 T213_46 = true := (okL_c (o213_45 hB)).2.2
theorem o213_47 (hB : BytesOK) : okL 213 84 T213_47 = true := (okL_c (o213_46 hB)).2.2
theorem o213_48 (hB : BytesOK) : okL 213 85 T213_48 = true := (okL_c (o213_47 hB)).2.2
theorem o213_49 (hB : BytesOK) : okL 213 86 T213_49 = true := (okL_c (o213_48 hB)).2.2
theorem o213_50 (hB : BytesOK) : okL 213 89 T213_50 = true := (okL_c (o213_49 hB)).2.2
theorem o213_51 (hB : BytesOK) : okL 213 90 T213_51 = true := (okL_c (o213_50 hB)).2.2
theorem o213_52 (hB : BytesOK) : okL 213 93 T213_52 = true := (okL_c (o213_51 hB)).2.2
theorem o213_53 (hB : BytesOK) : okL 213 95 T213_53 = true := (okL_c (o213_52 hB)).2.2
theorem o213_54 (hB : BytesOK) : okL 213 96 T213_54 = true := (okL_c (o213_53 hB)).2.2
theorem o213_55 (hB : BytesOK) : okL 213 99 T213_55 = true := (okL_c (o213_54 hB)).2.2
theorem o213_56 (hB : BytesOK) : okL 213 100 T213_56 = true := (okL_c (o213_55 hB)).2.2
theorem o213_57 (hB : BytesOK) : okL 213 103 T213_57 = true := (okL_c (o213_56 hB)).2.2
theorem o213_58 (hB : BytesOK) : okL 213 104 T213_58 = true := (okL_c (o213_57 hB)).2.2
theorem o213_59 (hB : BytesOK) : okL 213 105 T213_59 = true := (okL_c (o213_58 hB)).2.2
theorem o213_60 (hB : BytesOK) : okL 213 108 T213_60 = true := (okL_c (o213_59 hB)).2.2
theorem o213_61 (hB : BytesOK) : okL 213 111 T213_61 = true := (okL_c (o213_60 hB)).2.2
theorem o213_62 (hB : BytesOK) : okL 213 114 T213_62 = true := (okL_c (o213_61 hB)).2.2
theorem ml213 : mml 213 = 5 := by decide +kernel
theorem mr213 : mret 213 = none := by decide +kernel
theorem mg213 : kGood 213 = true := by decide +kernel

def T214_11 : List Tok := []
def T214_10 : List Tok := (.return_, 1, 0, 0) :: T214_11
def T214_9 : List Tok := (.putfield 139, 3, 716, 1357) :: T214_10
def T214_8 : List Tok := (.getfield 139, 3, 716, 1357) :: T214_9
def T214_7 : List Tok := (.aload_n 0, 1, 0, 0) :: T214_8
def T214_6 : List Tok := (.goto 7, 3, 0, 0) :: T214_7
def T214_5 : List Tok := (.getfield 127, 3, 713, 1354) :: T214_6
def T214_4 : List Tok := (.aload_n 0, 1, 0, 0) :: T214_5
def T214_3 : List Tok := (.ifCond .ge 10, 3, 0, 0) :: T214_4
def T214_2 : List Tok := (.getfield 139, 3, 716, 1357) :: T214_3
def T214_1 : List Tok := (.aload_n 0, 1, 0, 0) :: T214_2
def T214_0 : List Tok := (.aload_n 0, 1, 0, 0) :: T214_1
theorem o214_0 (hB : BytesOK) : okL 214 0 T214_0 = true := by
  have h := hB.1 214
  rw [show tk 214 = T214_0 from by decide +kernel] at h
  exact h
theorem o214_1 (hB : BytesOK) : okL 214 1 T214_1 = true := (okL_c (o214_0 hB)).2.2
theorem o214_2 (hB : BytesOK) : okL 214 2 T214_2 = true := (okL_c (o214_1 hB)).2.2
theorem o214_3 (hB : BytesOK) : okL 214 5 T214_3 = true := (okL_c (o214_2 hB)).2.2
theorem o214_4 (hB : BytesOK) : okL 214 8 T214_4 = true := (okL_c (o214_3 hB)).2.2
theorem o214_5 (hB : BytesOK) : okL 214 9 T214_5 = true := (okL_c (o214_4 hB)).2.2
theorem o214_6 (hB : BytesOK) : okL 214 12 T214_6 = true := (okL_c (o214_5 hB)).2.2
theorem o214_7 (hB : BytesOK) : okL 214 15 T214_7 = true := (okL_c (o214_6 hB)).2.2
theorem o214_8 (hB : BytesOK) : okL 214 16 T214_8 = true := (okL_c (o214_7 hB)).2.2
theorem o214_9 (hB : BytesOK) : okL 214 19 T214_9 = true := (okL_c (o214_8 hB)).2.2
theorem o214_10 (hB : BytesOK) : okL 214 22 T214_10 = true := (okL_c (o214_9 hB)).2.2
theorem ml214 : mml 214 = 1 := by decide +kernel
theorem mr214 : mret 214 = none := by decide +kernel
theorem mg214 : kGood 214 = true := by decide +kernel

def T215_17 : List Tok := []
def T215_16 : List Tok := (.ireturn, 1, 0, 0) :: T215_17
def T215_15 : List Tok := (.iconst 0, 1, 0, 0) :: T215_16
def T215_14 : List Tok := (.goto 4, 3, 0, 0) :: T215_15
def T215_13 : List Tok := (.iconst 1, 1, 0, 0) :: T215_14
def T215_12 : List Tok := (.ifCond .eq 7, 3, 0, 0) :: T215_13
def T215_11 : List Tok := (.invokestatic 64, 3, 184, 1491) :: T215_12
def T215_10 : List Tok := (.iload_n 2, 1, 0, 0) :: T215_11
def T215_9 : List Tok := (.iload_n 1, 1, 0, 0) :: T215_10
def T215_8 : List Tok := (.getfield 133, 3, 715, 1356) :: T215_9
def T215_7 : List Tok := (.aload_n 0, 1, 0, 0) :: T215_8
def T215_6 : List Tok := (.if_icmp .ne 19, 3, 0, 0) :: T215_7
def T215_5 : List Tok := (.iconst 2, 1, 0, 0) :: T215_6
def T215_4 : List Tok := (.getfield 130, 3, 714, 1355) :: T215_5
def T215_3 : List Tok := (.aload_n 0, 1, 0, 0) :: T215_4
def T215_2 : List Tok := (.ifCond .ge 27, 3, 0, 0) :: T215_3
def T215_1 : List Tok := (.getfield 139, 3, 716, 1357) :: T215_2
def T215_0 : List Tok := (.aload_n 0, 1, 0, 0) :: T215_1
theorem o215_0 (hB : BytesOK) : okL 215 0 T215_0 = true := by
  have h := hB.1 215
  rw [show tk 215 = T215_0 from by decide +kernel] at h
  exact h
theorem o215_1 (hB : BytesOK) : okL 215 1 T215_1 = true := (okL_c (o215_0 hB)).2.2
theorem o215_2 (hB : BytesOK) : okL 215 4 T215_2 = true := (okL_c (o215_1 hB)).2.2
theorem o215_3 (hB : BytesOK) : okL 215 7 T215_3 = true := (okL_c (o215_2 hB)).2.2
theorem o215_4 (hB : BytesOK) : okL 215 8 T215_4 = true := (okL_c (o215_3 hB)).2.2
theorem o215_5 (hB : BytesOK) : okL 215 11 T215_5 = true := (okL_c (o215_4 hB)).2.2
theorem o215_6 (hB : BytesOK) : okL 215 12 T215_6 = true := (okL_c (o215_5 hB)).2.2
theorem o215_7 (hB : BytesOK) : okL 215 15 T215_7 = true := (okL_c (o215_6 hB)).2.2
theorem o215_8 (hB : BytesOK) : okL 215 16 T215_8 = true := (okL_c (o215_7 hB)).2.2
theorem o215_9 (hB : BytesOK) : okL 215 19 T215_9 = true := (okL_c (o215_8 hB)).2.2
theorem o215_10 (hB : BytesOK) : okL 215 20 T215_10 = true := (okL_c (o215_9 hB)).2.2
theorem o215_11 (hB : BytesOK) : okL 215 21 T215_11 = true := (okL_c (o215_10 hB)).2.2
theorem o215_12 (hB : BytesOK) : okL 215 24 T215_12 = true := (okL_c (o215_11 hB)).2.2
theorem o215_13 (hB : BytesOK) : okL 215 27 T215_13 = true := (okL_c (o215_12 hB)).2.2
theorem o215_14 (hB : BytesOK) : okL 215 28 T215_14 = true := (okL_c (o215_13 hB)).2.2
theorem o215_15 (hB : BytesOK) : okL 215 31 T215_15 = true := (okL_c (o215_14 hB)).2.2
theorem o215_16 (hB : BytesOK) : okL 215 32 T215_16 = true := (okL_c (o215_15 hB)).2.2
theorem ml215 : mml 215 = 3 := by decide +kernel
theorem mr215 : mret 215 = some .boolean := by decide +kernel
theorem mg215 : kGood 215 = true := by decide +kernel

def T216_11 : List Tok := []
def T216_10 : List Tok := (.return_, 1, 0, 0) :: T216_11
def T216_9 : List Tok := (.invokevirtual 148, 3, 214, 1624) :: T216_10
def T216_8 : List Tok := (.aload_n 0, 1, 0, 0) :: T216_9
def T216_7 : List Tok := (.goto 7, 3, 0, 0) :: T216_8
def T216_6 : List Tok := (.invokevirtual 145, 3, 212, 1596) :: T216_7
def T216_5 : List Tok := (.aload_n 0, 1, 0, 0) :: T216_6
def T216_4 : List Tok := (.ifCond .eq 10, 3, 0, 0) :: T216_5
def T216_3 : List Tok := (.invokevirtual 142, 3, 215, 1608) :: T216_4
def T216_2 : List Tok := (.iload_n 1, 1, 0, 0) :: T216_3
def T216_1 : List Tok := (.iload_n 1, 1, 0, 0) :: T216_2
def T216_0 : List Tok := (.aload_n 0, 1, 0, 0) :: T216_1
theorem o216_0 (hB : BytesOK) : okL 216 0 T216_0 = true := by
  have h := hB.1 216
  rw [show tk 216 = T216_0 from by decide +kernel] at h
  exact h
theorem o216_1 (hB : BytesOK) : okL 216 1 T216_1 = true := (okL_c (o216_0 hB)).2.2
theorem o216_2 (hB : BytesOK) : okL 216 2 T216_2 = true := (okL_c (o216_1 hB)).2.2
theorem o216_3 (hB : BytesOK) : okL 216 3 T216_3 = true := (okL_c (o216_2 hB)).2.2
theorem o216_4 (hB : BytesOK) : okL 216 6 T216_4 = true := (okL_c (o216_3 hB)).2.2
theorem o216_5 (hB : BytesOK) : okL 216 9 T216_5 = true := (okL_c (o216_4 hB)).2.2
theorem o216_6 (hB : BytesOK) : okL 216 10 T216_6 = true := (okL_c (o216_5 hB)).2.2
theorem o216_7 (hB : BytesOK) : okL 216 13 T216_7 = true := (okL_c (o216_6 hB)).2.2
theorem o216_8 (hB : BytesOK) : okL 216 16 T216_8 = true := (okL_c (o216_7 hB)).2.2
theorem o216_9 (hB : BytesOK) : okL 216 17 T216_9 = true := (okL_c (o216_8 hB)).2.2
theorem o216_10 (hB : BytesOK) : okL 216 20 T216_10 = true := (okL_c (o216_9 hB)).2.2
theorem ml216 : mml 216 = 2 := by decide +kernel
theorem mr216 : mret 216 = none := by decide +kernel
theorem mg216 : kGood 216 = true := by decide +kernel

def T217_23 : List Tok := []
def T217_22 : List Tok := (.ireturn, 1, 0, 0) :: T217_23
def T217_21 : List Tok := (.iload_n 3, 1, 0, 0) :: T217_22
def T217_20 : List Tok := (.invokevirtual 145, 3, 212, 1596) :: T217_21
def T217_19 : List Tok := (.aload_n 0, 1, 0, 0) :: T217_20
def T217_18 : List Tok := (.ireturn, 1, 0, 0) :: T217_19
def T217_17 : List Tok := (.iconst 0, 1, 0, 0) :: T217_18
def T217_16 : List Tok := (.invokevirtual 148, 3, 214, 1624) :: T217_17
def T217_15 : List Tok := (.aload_n 0, 1, 0, 0) :: T217_16
def T217_14 : List Tok := (.ifCond .ne 9, 3, 0, 0) :: T217_15
def T217_13 : List Tok := (.invokestatic 64, 3, 184, 1491) :: T217_14
def T217_12 : List Tok := (.iload_n 2, 1, 0, 0) :: T217_13
def T217_11 : List Tok := (.iload_n 1, 1, 0, 0) :: T217_12
def T217_10 : List Tok := (.iload_n 3, 1, 0, 0) :: T217_11
def T217_9 : List Tok := (.if_icmp .ne 12, 3, 0, 0) :: T217_10
def T217_8 : List Tok := (.iconst 3, 1, 0, 0) :: T217_9
def T217_7 : List Tok := (.getfield 130, 3, 714, 1355) :: T217_8
def T217_6 : List Tok := (.aload_n 0, 1, 0, 0) :: T217_7
def T217_5 : List Tok := (.ifCond .ge 20, 3, 0, 0) :: T217_6
def T217_4 : List Tok := (.getfield 139, 3, 716, 1357) :: T217_5
def T217_3 : List Tok := (.aload_n 0, 1, 0, 0) :: T217_4
def T217_2 : List Tok := (.istore_n 3, 1, 0, 0) :: T217_3
def T217_1 : List Tok := (.getfield 133, 3, 715, 1356) :: T217_2
def T217_0 : List Tok := (.aload_n 0, 1, 0, 0) :: T217_1
theorem o217_0 (hB : BytesOK) : okL 217 0 T217_0 = true := by
  have h := hB.1 217
  rw [show tk 217 = T217_0 from by decide +kernel] at h
  exact h
theorem o217_1 (hB : BytesOK) : okL 217 1 T217_1 = true := (okL_c (o217_0 hB)).2.2
theorem o217_2 (hB : BytesOK) : okL 217 4 T217_2 = true := (okL_c (o217_1 hB)).2.2
theorem o217_3 (hB : BytesOK) : okL 217 5 T217_3 = true := (okL_c (o217_2 hB)).2.2
theorem o217_4 (hB : BytesOK) : okL 217 6 T217_4 = true := (okL_c (o217_3 hB)).2.2
theorem o217_5 (hB : BytesOK) : okL 217 9 T217_5 = true := (okL_c (o217_4 hB)).2.2
theorem o217_6 (hB : BytesOK) : okL 217 12 T217_6 = true := (okL_c (o217_5 hB)).2.2
theorem o217_7 (hB : BytesOK) : okL 217 13 T217_7 = true := (okL_c (o217_6 hB)).2.2
theorem o217_8 (hB : BytesOK) : okL 217 16 T217_8 = true := (okL_c (o217_7 hB)).2.2
theorem o217_9 (hB : BytesOK) : okL 217 17 T217_9 = true := (okL_c (o217_8 hB)).2.2
theorem o217_10 (hB : BytesOK) : okL 217 20 T217_10 = true := (okL_c (o217_9 hB)).2.2
theorem o217_11 (hB : BytesOK) : okL 217 21 T217_11 = true := (okL_c (o217_10 hB)).2.2
theorem o217_12 (hB : BytesOK) : okL 217 22 T217_12 = true := (okL_c (o217_11 hB)).2.2
theorem o217_13 (hB : BytesOK) : okL 217 23 T217_13 = true := (okL_c (o217_12 hB)).2.2
theorem o217_14 (hB : BytesOK) : okL 217 26 T217_14 = true := (okL_c (o217_13 hB)).2.2
theorem o217_15 (hB : BytesOK) : okL 217 29 T217_15 = true := (okL_c (o217_14 hB)).2.2
theorem o217_16 (hB : BytesOK) : okL 217 30 T217_16 = true := (okL_c (o217_15 hB)).2.2
theorem o217_17 (hB : BytesOK) : okL 217 33 T217_17 = true := (okL_c (o217_16 hB)).2.2
theorem o217_18 (hB : BytesOK) : okL 217 34 T217_18 = true := (okL_c (o217_17 hB)).2.2
theorem o217_19 (hB : BytesOK) : okL 217 35 T217_19 = true := (okL_c (o217_18 hB)).2.2
theorem o217_20 (hB : BytesOK) : okL 217 36 T217_20 = true := (okL_c (o217_19 hB)).2.2
theorem o217_21 (hB : BytesOK) : okL 217 39 T217_21 = true := (okL_c (o217_20 hB)).2.2
theorem o217_22 (hB : BytesOK) : okL 217 40 T217_22 = true := (okL_c (o217_21 hB)).2.2
theorem ml217 : mml 217 = 4 := by decide +kernel
theorem mr217 : mret 217 = some .int := by decide +kernel
theorem mg217 : kGood 217 = true := by decide +kernel

def T218_175 : List Tok := []
def T218_174 : List Tok := (.ireturn, 1, 0, 0) :: T218_175
def T218_173 : List Tok := (.iconst 0, 1, 0, 0) :: T218_174
def T218_172 : List Tok := (.goto 4, 3, 0, 0) :: T218_173
def T218_171 : List Tok := (.iconst 1, 1, 0, 0) :: T218_172
def T218_170 : List Tok := (.if_icmp .eq 7, 3, 0, 0) :: T218_171
def T218_169 : List Tok := (.iload_n 1, 1, 0, 0) :: T218_170
def T218_168 : List Tok := (.iload_n 2, 1, 0, 0) :: T218_169
def T218_167 : List Tok := (.invokevirtual 148, 3, 214, 1624) :: T218_168
def T218_166 : List Tok := (.aload_n 0, 1, 0, 0) :: T218_167
def T218_165 : List Tok := (.goto 7, 3, 0, 0) :: T218_166
def T218_164 : List Tok := (.istore_n 2, 1, 0, 0) :: T218_165
def T218_163 : List Tok := (.iconst 0, 1, 0, 0) :: T218_164
def T218_162 : List Tok := (.goto 4, 3, 0, 0) :: T218_163
def T218_161 : List Tok := (.iconst 1, 1, 0, 0) :: T218_162
def T218_160 : List Tok := (.if_icmp .le 7, 3, 0, 0) :: T218_161
def T218_159 : List Tok := (.iload 5, 2, 0, 0) :: T218_160
def T218_158 : List Tok := (.iload_n 3, 1, 0, 0) :: T218_159
def T218_157 : List Tok := (.goto 14, 3, 0, 0) :: T218_158
def T218_156 : List Tok := (.iconst 0, 1, 0, 0) :: T218_157
def T218_155 : List Tok := (.goto 18, 3, 0, 0) :: T218_156
def T218_154 : List Tok := (.iconst 1, 1, 0, 0) :: T218_155
def T218_153 : List Tok := (.if_icmp .ne 7, 3, 0, 0) :: T218_154
def T218_152 : List Tok := (.iload 5, 2, 0, 0) :: T218_153
def T218_151 : List Tok := (.iload_n 3, 1, 0, 0) :: T218_152
def T218_150 : List Tok := (.if_icmp .ne 17, 3, 0, 0) :: T218_151
def T218_149 : List Tok := (.bipush 61, 2, 0, 0) :: T218_150
def T218_148 : List Tok := (.iload 4, 2, 0, 0) :: T218_149
def T218_147 : List Tok := (.goto 35, 3, 0, 0) :: T218_148
def T218_146 : List Tok := (.iconst 0, 1, 0, 0) :: T218_147
def T218_145 : List Tok := (.goto 39, 3, 0, 0) :: T218_146
def T218_144 : List Tok := (.iconst 1, 1, 0, 0) :: T218_145
def T218_143 : List Tok := (.if_icmp .ge 7, 3, 0, 0) :: T218_144
def T218_142 : List Tok := (.iload 5, 2, 0, 0) :: T218_143
def T218_141 : List Tok := (.iload_n 3, 1, 0, 0) :: T218_142
def T218_140 : List Tok := (.if_icmp .ne 17, 3, 0, 0) :: T218_141
def T218_139 : List Tok := (.bipush 60, 2, 0, 0) :: T218_140
def T218_138 : List Tok := (.iload 4, 2, 0, 0) :: T218_139
def T218_137 : List Tok := (.istore 5, 2, 0, 0) :: T218_138
def T218_136 : List Tok := (.invokevirtual 174, 3, 217, 1632) :: T218_137
def T218_135 : List Tok := (.sipush 999, 3, 0, 0) :: T218_136
def T218_134 : List Tok := (.iconst 0, 1, 0, 0) :: T218_135
def T218_133 : List Tok := (.aload_n 0, 1, 0, 0) :: T218_134
def T218_132 : List Tok := (.invokevirtual 145, 3, 212, 1596) :: T218_133
def T218_131 : List Tok := (.aload_n 0, 1, 0, 0) :: T218_132
def T218_130 : List Tok := (.ireturn, 1, 0, 0) :: T218_131
def T218_129 : List Tok := (.iconst 0, 1, 0, 0) :: T218_130
def T218_128 : List Tok := (.invokevirtual 148, 3, 214, 1624) :: T218_129
def T218_127 : List Tok := (.aload_n 0, 1, 0, 0) :: T218_128
def T218_126 : List Tok := (.if_icmp .eq 9, 3, 0, 0) :: T218_127
def T218_125 : List Tok := (.bipush 62, 2, 0, 0) :: T218_126
def T218_124 : List Tok := (.iload 4, 2, 0, 0) :: T218_125
def T218_123 : List Tok := (.if_icmp .eq 16, 3, 0, 0) :: T218_124
def T218_122 : List Tok := (.bipush 61, 2, 0, 0) :: T218_123
def T218_121 : List Tok := (.iload 4, 2, 0, 0) :: T218_122
def T218_120 : List Tok := (.if_icmp .eq 23, 3, 0, 0) :: T218_121
def T218_119 : List Tok := (.bipush 60, 2, 0, 0) :: T218_120
def T218_118 : List Tok := (.iload 4, 2, 0, 0) :: T218_119
def T218_117 : List Tok := (.ifCond .ge 24, 3, 0, 0) :: T218_118
def T218_116 : List Tok := (.getfield 139, 3, 716, 1357) :: T218_117
def T218_115 : List Tok := (.aload_n 0, 1, 0, 0) :: T218_116
def T218_114 : List Tok := (.istore 4, 2, 0, 0) :: T218_115
def T218_113 : List Tok := (.getfield 130, 3, 714, 1355) :: T218_114
def T218_112 : List Tok := (.aload_n 0, 1, 0, 0) :: T218_113
def T218_111 : List Tok := (.invokevirtual 145, 3, 212, 1596) :: T218_112
def T218_110 : List Tok := (.aload_n 0, 1, 0, 0) :: T218_111
def T218_109 : List Tok := (.istore_n 3, 1, 0, 0) :: T218_110
def T218_108 : List Tok := (.getfield 171, 3, 722, 1363) :: T218_109
def T218_107 : List Tok := (.aload_n 0, 1, 0, 0) :: T218_108
def T218_106 : List Tok := (.goto 7, 3, 0, 0) :: T218_107
def T218_105 : List Tok := (.getfield 168, 3, 721, 1362) :: T218_106
def T218_104 : List Tok := (.aload_n 0, 1, 0, 0) :: T218_105
def T218_103 : List Tok := (.if_icmp .ne 10, 3, 0, 0) :: T218_104
def T218_102 : List Tok := (.iconst 3, 1, 0, 0) :: T218_103
def T218_101 : List Tok := (.getfield 133, 3, 715, 1356) :: T218_102
def T218_100 : List Tok := (.aload_n 0, 1, 0, 0) :: T218_101
def T218_99 : List Tok := (.goto 22, 3, 0, 0) :: T218_100
def T218_98 : List Tok := (.getfield 165, 3, 720, 1361) :: T218_99
def T218_97 : List Tok := (.aload_n 0, 1, 0, 0) :: T218_98
def T218_96 : List Tok := (.if_icmp .ne 10, 3, 0, 0) :: T218_97
def T218_95 : List Tok := (.bipush 18, 2, 0, 0) :: T218_96
def T218_94 : List Tok := (.getfield 133, 3, 715, 1356) :: T218_95
def T218_93 : List Tok := (.aload_n 0, 1, 0, 0) :: T218_94
def T218_92 : List Tok := (.goto 38, 3, 0, 0) :: T218_93
def T218_91 : List Tok := (.getfield 162, 3, 719, 1360) :: T218_92
def T218_90 : List Tok := (.aload_n 0, 1, 0, 0) :: T218_91
def T218_89 : List Tok := (.if_icmp .ne 10, 3, 0, 0) :: T218_90
def T218_88 : List Tok := (.bipush 17, 2, 0, 0) :: T218_89
def T218_87 : List Tok := (.getfield 133, 3, 715, 1356) :: T218_88
def T218_86 : List Tok := (.aload_n 0, 1, 0, 0) :: T218_87
def T218_85 : List Tok := (.ifCond .eq 170, 3, 0, 0) :: T218_86
def T218_84 : List Tok := (.invokevirtual 142, 3, 215, 1608) :: T218_85
def T218_83 : List Tok := (.iconst 3, 1, 0, 0) :: T218_84
def T218_82 : List Tok := (.iconst 3, 1, 0, 0) :: T218_83
def T218_81 : List Tok := (.aload_n 0, 1, 0, 0) :: T218_82
def T218_80 : List Tok := (.ifCond .ne 12, 3, 0, 0) :: T218_81
def T218_79 : List Tok := (.invokevirtual 142, 3, 215, 1608) :: T218_80
def T218_78 : List Tok := (.bipush 19, 2, 0, 0) :: T218_79
def T218_77 : List Tok := (.bipush 17, 2, 0, 0) :: T218_78
def T218_76 : List Tok := (.aload_n 0, 1, 0, 0) :: T218_77
def T218_75 : List Tok := (.goto 194, 3, 0, 0) :: T218_76
def T218_74 : List Tok := (.invokevirtual 145, 3, 212, 1596) :: T218_75
def T218_73 : List Tok := (.aload_n 0, 1, 0, 0) :: T218_74
def T218_72 : List Tok := (.istore_n 2, 1, 0, 0) :: T218_73
def T218_71 : List Tok := (.getfield 158, 3, 718, 1359) :: T218_72
def T218_70 : List Tok := (.aload_n 0, 1, 0, 0) :: T218_71
def T218_69 : List Tok := (.ifCond .eq 15, 3, 0, 0) :: T218_70
def T218_68 : List Tok := (.invokevirtual 142, 3, 215, 1608) :: T218_69
def T218_67 : List Tok := (.bipush 16, 2, 0, 0) :: T218_68
def T218_66 : List Tok := (.bipush 16, 2, 0, 0) :: T218_67
def T218_65 : List Tok := (.aload_n 0, 1, 0, 0) :: T218_66
def T218_64 : List Tok := (.goto 217, 3, 0, 0) :: T218_65
def T218_63 : List Tok := (.putfield 151, 3, 717, 1358) :: T218_64
def T218_62 : List Tok := (.isub, 1, 0, 0) :: T218_63
def T218_61 : List Tok := (.iconst 1, 1, 0, 0) :: T218_62
def T218_60 : List Tok := (.getfield 151, 3, 717, 1358) :: T218_61
def T218_59 : List Tok := (.dup, 1, 0, 0) :: T218_60
def T218_58 : List Tok := (.aload_n 0, 1, 0, 0) :: T218_59
def T218_57 : List Tok := (.invokevirtual 145, 3, 212, 1596) :: T218_58
def T218_56 : List Tok := (.aload_n 0, 1, 0, 0) :: T218_57
def T218_55 : List Tok := (.ifCond .ge 7, 3, 0, 0) :: T218_56
def T218_54 : List Tok := (.getfield 139, 3, 716, 1357) :: T218_55
def T218_53 : List Tok := (.aload_n 0, 1, 0, 0) :: T218_54
def T218_52 : List Tok := (.invokevirtual 148, 3, 214, 1624) :: T218_53
def T218_51 : List Tok := (.aload_n 0, 1, 0, 0) :: T218_52
def T218_50 : List Tok := (.if_icmp .eq 7, 3, 0, 0) :: T218_51
def T218_49 : List Tok := (.bipush 41, 2, 0, 0) :: T218_50
def T218_48 : List Tok := (.getfield 130, 3, 714, 1355) :: T218_49
def T218_47 : List Tok := (.aload_n 0, 1, 0, 0) :: T218_48
def T218_46 : List Tok := (.ifCond .ge 16, 3, 0, 0) :: T218_47
def T218_45 : List Tok := (.getfield 139, 3, 716, 1357) :: T218_46
def T218_44 : List Tok := (.aload_n 0, 1, 0, 0) :: T218_45
def T218_43 : List Tok := (.istore_n 2, 1, 0, 0) :: T218_44
def T218_42 : List Tok := (.invokevirtual 154, 3, 220, 1640) :: T218_43
def T218_41 : List Tok := (.aload_n 0, 1, 0, 0) :: T218_42
def T218_40 : List Tok := (.invokevirtual 145, 3, 212, 1596) :: T218_41
def T218_39 : List Tok := (.aload_n 0, 1, 0, 0) :: T218_40
def T218_38 : List Tok := (.putfield 151, 3, 717, 1358) :: T218_39
def T218_37 : List Tok := (.iadd, 1, 0, 0) :: T218_38
def T218_36 : List Tok := (.iconst 1, 1, 0, 0) :: T218_37
def T218_35 : List Tok := (.getfield 151, 3, 717, 1358) :: T218_36
def T218_34 : List Tok := (.dup, 1, 0, 0) :: T218_35
def T218_33 : List Tok := (.aload_n 0, 1, 0, 0) :: T218_34
def T218_32 : List Tok := (.ireturn, 1, 0, 0) :: T218_33
def T218_31 : List Tok := (.iconst 0, 1, 0, 0) :: T218_32
def T218_30 : List Tok := (.invokevirtual 148, 3, 214, 1624) :: T218_31
def T218_29 : List Tok := (.aload_n 0, 1, 0, 0) :: T218_30
def T218_28 : List Tok := (.if_icmp .ne 9, 3, 0, 0) :: T218_29
def T218_27 : List Tok := (.iconst 4, 1, 0, 0) :: T218_28
def T218_26 : List Tok := (.getfield 151, 3, 717, 1358) :: T218_27
def T218_25 : List Tok := (.aload_n 0, 1, 0, 0) :: T218_26
def T218_24 : List Tok := (.if_icmp .ne 80, 3, 0, 0) :: T218_25
def T218_23 : List Tok := (.bipush 40, 2, 0, 0) :: T218_24
def T218_22 : List Tok := (.getfield 130, 3, 714, 1355) :: T218_23
def T218_21 : List Tok := (.aload_n 0, 1, 0, 0) :: T218_22
def T218_20 : List Tok := (.ifCond .ge 89, 3, 0, 0) :: T218_21
def T218_19 : List Tok := (.getfield 139, 3, 716, 1357) :: T218_20
def T218_18 : List Tok := (.aload_n 0, 1, 0, 0) :: T218_19
def T218_17 : List Tok := (.istore_n 2, 1, 0, 0) :: T218_18
def T218_16 : List Tok := (.iconst 0, 1, 0, 0) :: T218_17
def T218_15 : List Tok := (.goto (-25), 3, 0, 0) :: T218_16
def T218_14 : List Tok := (.invokevirtual 145, 3, 212, 1596) :: T218_15
def T218_13 : List Tok := (.aload_n 0, 1, 0, 0) :: T218_14
def T218_12 : List Tok := (.istore_n 1, 1, 0, 0) :: T218_13
def T218_11 : List Tok := (.iconst 0, 1, 0, 0) :: T218_12
def T218_10 : List Tok := (.goto 4, 3, 0, 0) :: T218_11
def T218_9 : List Tok := (.iconst 1, 1, 0, 0) :: T218_10
def T218_8 : List Tok := (.ifCond .ne 7, 3, 0, 0) :: T218_9
def T218_7 : List Tok := (.iload_n 1, 1, 0, 0) :: T218_8
def T218_6 : List Tok := (.ifCond .eq 20, 3, 0, 0) :: T218_7
def T218_5 : List Tok := (.invokevirtual 142, 3, 215, 1608) :: T218_6
def T218_4 : List Tok := (.bipush 15, 2, 0, 0) :: T218_5
def T218_3 : List Tok := (.bipush 15, 2, 0, 0) :: T218_4
def T218_2 : List Tok := (.aload_n 0, 1, 0, 0) :: T218_3
def T218_1 : List Tok := (.istore_n 1, 1, 0, 0) :: T218_2
def T218_0 : List Tok := (.iconst 0, 1, 0, 0) :: T218_1
theorem o218_0 (hB : BytesOK) : okL 218 0 T218_0 = true := by
  have h := hB.1 218
  rw [show tk 218 = T218_0 from by decide +kernel] at h
  exact h
theorem o218_1 (hB : BytesOK) : okL 218 1 T218_1 = true := (okL_c (o218_0 hB)).2.2
theorem o218_2 (hB : BytesOK) : okL 218 2 T218_2 = true := (okL_c (o218_1 hB)).2.2
theorem o218_3 (hB : BytesOK) : okL 218 3 T218_3 = true := (okL_c (o218_2 hB)).2.2
theorem o218_4 (hB : BytesOK) : okL 218 5 T218_4 = true := (okL_c (o218_3 hB)).2.2
theorem o218_5 (hB : BytesOK) : okL 218 7 T218_5 = true := (okL_c (o218_4 hB)).2.2
theorem o218_6 (hB : BytesOK) : okL 218 10 T218_6 = true := (okL_c (o218_5 hB)).2.2
theorem o218_7 (hB : BytesOK) : okL 218 13 T218_7 = true := (okL_c (o218_6 hB)).2.2
theorem o218_8 (hB : BytesOK) : okL 218 14 T218_8 = true := (okL_c (o218_7 hB)).2.2
theorem o218_9 (hB : BytesOK) : okL 218 17 T218_9 = true := (okL_c (o218_8 hB)).2.2
theorem o218_10 (hB : BytesOK) : okL 218 18 T218_10 = true := (okL_c (o218_9 hB)).2.2
theorem o218_11 (hB : BytesOK) : okL 218 21 T218_11 = true := (okL_c (o218_10 hB)).2.2
theorem o218_12 (hB : BytesOK) : okL 218 22 T218_12 = true := (okL_c (o218_11 hB)).2.2
theorem o218_13 (hB : BytesOK) : okL 218 23 T218_13 = true := (okL_c (o218_12 hB)).2.2
theorem o218_14 (hB : BytesOK) : okL 218 24 T218_14 = true := (okL_c (o218_13 hB)).2.2
theorem o218_15 (hB : BytesOK) : okL 218 27 T218_15 = true := (okL_c (o218_14 hB)).2.2
theorem o218_16 (hB : BytesOK) : okL 218 30 T218_16 = true := (okL_c (o218_15 hB)).2.2
theorem o218_17 (hB : BytesOK) : okL 218 31 T218_17 = true := (okL_c (o218_16 hB)).2.2
theorem o218_18 (hB : BytesOK) : okL 218 32 T218_18 = true := (okL_c (o218_17 hB)).2.2
theorem o218_19 (hB : BytesOK) : okL 218 33 T218_19 = true := (okL_c (o218_18 hB)).2.2
theorem o218_20 (hB : BytesOK) : okL 218 36 T218_20 = true := (okL_c (o218_19 hB)).2.2
theorem o218_21 (hB : BytesOK) : okL 218 39 T218_21 = true := (okL_c (o218_20 hB)).2.2
theorem o218_22 (hB : BytesOK) : okL 218 40 T218_22 = true := (okL_c (o218_21 hB)).2.2
theorem o218_23 (hB : BytesOK) : okL 218 43 T218_23 = true := (okL_c (o218_22 hB)).2.2
theorem o218_24 (hB : BytesOK) : okL 218 45 T218_24 = true := (okL_c (o218_23 hB)).2.2
theorem o218_25 (hB : BytesOK) : okL 218 48 T218_25 = true := (okL_c (o218_24 hB)).2.2
theorem o218_26 (hB : BytesOK) : okL 218 49 T218_26 = true := (okL_c (o218_25 hB)).2.2
theorem o218_27 (hB : BytesOK) : okL 218 52 T218_27 = true := (okL_c (o218_26 hB)).2.2
theorem o218_28 (hB : BytesOK) : okL 218 53 T218_28 = true := (okL_c (o218_27 hB)).2.2
theorem o218_29 (hB : BytesOK) : okL 218 56 T218_29 = true := (okL_c (o218_28 hB)).2.2
theorem o218_30 (hB : BytesOK) : okL 218 57 T218_30 = true := (okL_c (o218_29 hB)).2.2
theorem o218_31 (hB : BytesOK) : okL 218 60 T218_31 = true := (okL_c (o218_30 hB)).2.2
theorem o218_32 (hB : BytesOK) : okL 218 61 T218_32 = true := (okL_c (o218_31 hB)).2.2
theorem o218_33 (hB : BytesOK) : okL 218 62 T218_33 = true := (okL_c (o218_32 hB)).2.2
theorem o218_34 (hB : BytesOK) : okL 218 63 T218_34 = true := (okL_c (o218_33 hB)).2.2
theorem o218_35 (hB : BytesOK) : okL 218 64 T218_35 = true := (okL_c (o218_34 hB)).2.2
theorem o218_36 (hB : BytesOK) : okL 218 67 T218_36 = true := (okL_c (o218_35 hB)).2.2
theorem o218_37 (hB : BytesOK) : okL 218 68 T218_37 = true := (okL_c (o218_36 hB)).2.2
theorem o218_38 (hB : BytesOK) : okL 218 69 T218_38 = true := (okL_c (o218_37 hB)).2.2
theorem o218_39 (hB : BytesOK) : okL 218 72 T218_39 = true := (okL_c (o218_38 hB)).2.2
theorem o218_40 (hB : BytesOK) : okL 218 73 T218_40 = true := (okL_c (o218_39 hB)).2.2
theorem o218_41 (hB : BytesOK) : okL 218 76 T218_41 = true := (okL_c (o218_40 hB)).2.2
theorem o218_42 (hB : BytesOK) : okL 218 77 T218_42 = true := (okL_c (o218_41 hB)).2.2
theorem o218_43 (hB : BytesOK) : okL 218 80 T218_43 = true := (okL_c (o218_42 hB)).2.2
theorem o218_44 (hB : BytesOK) : okL 218 81 T218_44 = true := (okL_c (o218_43 hB)).2.2
theorem o218_45 (hB : BytesOK) : okL 218 82 T218_45 = true := (okL_c (o218_44 hB)).2.2
theorem o218_46 (hB : BytesOK) : okL 218 85 T218_46 = true := (okL_c (o218_45 hB)).2.2
theorem o218_47 (hB : BytesOK) : okL 218 88 T218_47 = true := (okL_c (o218_46 hB)).2.2
theorem o218_48 (hB : BytesOK) : okL 218 89 T218_48 = true := (okL_c (o218_47 hB)).2.2
theorem o218_49 (hB : BytesOK) : okL 218 92 T218_49 = true := (okL_c (o218_48 hB)).2.2
theorem o218_50 (hB : BytesOK) : okL 218 94 T218_50 = true := (okL_c (o218_49 hB)).2.2
theorem o218_51 (hB : BytesOK) : okL 218 97 T218_51 = true := (okL_c (o218_50 hB)).2.2
theorem o218_52 (hB : BytesOK) : okL 218 98 T218_52 = true := (okL_c (o218_51 hB)).2.2
theorem o218_53 (hB : BytesOK) : okL 218 101 T218_53 = true := (okL_c (o218_52 hB)).2.2
theorem o218_54 (hB : BytesOK) : okL 218 102 T218_54 = true := (okL_c (o218_53 hB)).2.2
theorem o218_55 (hB : BytesOK) : okL 218 105 T218_55 = true := (okL_c (o218_54 hB)).2.2
theorem o218_56 (hB : BytesOK) : okL 218 108 T218_56 = true := (okL_c (o218_55 hB)).2.2
theorem o218_57 (hB : BytesOK) : okL 218 109 T218_57 = true := (okL_c (o218_56 hB)).2.2
theorem o218_58 (hB : BytesOK) : okL 218 112 T218_58 = true := (okL_c (o218_57 hB)).2.2
theorem o218_59 (hB : BytesOK) : okL 218 113 T218_59 = true := (okL_c (o218_58 hB)).2.2
theorem o218_60 (hB : BytesOK) : okL 218 114 T218_60 = true := (okL_c (o218_59 hB)).2.2
theorem o218_61 (hB : BytesOK) : okL 218 117 T218_61 = true := (okL_c (o218_60 hB)).2.2
theorem o218_62 (hB : BytesOK) : okL 218 118 T218_62 = true := (okL_c (o218_61 hB)).2.2
theorem o218_63 (hB : BytesOK) : okL 218 119 T218_63 = true := (okL_c (o218_62 hB)).2.2
theorem o218_64 (hB : BytesOK) : okL 218 122 T218_64 = true := (okL_c (o218_63 hB)).2.2
theorem o218_65 (hB : BytesOK) : okL 218 125 T218_65 = true := (okL_c (o218_64 hB)).2.2
theorem o218_66 (hB : BytesOK) : okL 218 126 T218_66 = true := (okL_c (o218_65 hB)).2.2
theorem o218_67 (hB : BytesOK) : okL 218 128 T218_67 = true := (okL_c (o218_66 hB)).2.2
theorem o218_68 (hB : BytesOK) : okL 218 130 T218_68 = true := (okL_c (o218_67 hB)).2.2
theorem o218_69 (hB : BytesOK) : okL 218 133 T218_69 = true := (okL_c (o218_68 hB)).2.2
theorem o218_70 (hB : BytesOK) : okL 218 136 T218_70 = true := (okL_c (o218_69 hB)).2.2
theorem o218_71 (hB : BytesOK) : okL 218 137 T218_71 = true := (okL_c (o218_70 hB)).2.2
theorem o218_72 (hB : BytesOK) : okL 218 140 T218_72 = true := (okL_c (o218_71 hB)).2.2
theorem o218_73 (hB : BytesOK) : okL 218 141 T218_73 = true := (okL_c (o218_72 hB)).2.2
theorem o218_74 (hB : BytesOK) : okL 218 142 T218_74 = true := (okL_c (o218_73 hB)).2.2
theorem o218_75 (hB : BytesOK) : okL 218 145 T218_75 = true := (okL_c (o218_74 hB)).2.2
theorem o218_76 (hB : BytesOK) : okL 218 148 T218_76 = true := (okL_c (o218_75 hB)).2.2
theorem o218_77 (hB : BytesOK) : okL 218 149 T218_77 = true := (okL_c (o218_76 hB)).2.2
theorem o218_78 (hB : BytesOK) : okL 218 151 T218_78 = true := (okL_c (o218_77 hB)).2.2
theorem o218_79 (hB : BytesOK) : okL 218 153 T218_79 = true := (okL_c (o218_78 hB)).2.2
theorem o218_80 (hB : BytesOK) : okL 218 156 T218_80 = true := (okL_c (o218_79 hB)).2.2
theorem o218_81 (hB : BytesOK) : okL 218 159 T218_81 = true := (okL_c (o218_80 hB)).2.2
theorem o218_82 (hB : BytesOK) : okL 218 160 T218_82 = true := (okL_c (o218_81 hB)).2.2
theorem o218_83 (hB : BytesOK) : okL 218 161 T218_83 = true := (okL_c (o218_82 hB)).2.2
theorem o218_84 (hB : BytesOK) : okL 218 162 T218_84 = true := (okL_c (o218_83 hB)).2.2
theorem o218_85 (hB : BytesOK) : okL 218 165 T218_85 = true := (okL_c (o218_84 hB)).2.2
theorem o218_86 (hB : BytesOK) : okL 218 168 T218_86 = true := (okL_c (o218_85 hB)).2.2
theorem o218_87 (hB : BytesOK) : okL 218 169 T218_87 = true := (okL_c (o218_86 hB)).2.2
theorem o218_88 (hB : BytesOK) : okL 218 172 T218_88 = true := (okL_c (o218_87 hB)).2.2
theorem o218_89 (hB : BytesOK) : okL 218 174 T218_89 = true := (okL_c (o218_88 hB)).2.2
theorem o218_90 (hB : BytesOK) : okL 218 177 T218_90 = true := (okL_c (o218_89 hB)).2.2
theorem o218_91 (hB : BytesOK) : okL 218 178 T218_91 = true := (okL_c (o218_90 hB)).2.2
theorem o218_92 (hB : BytesOK) : okL 218 181 T218_92 = true := (okL_c (o218_91 hB)).2.2
theorem o218_93 (hB : BytesOK) : okL 218 184 T218_93 = true := (okL_c (o218_92 hB)).2.2
theorem o218_94 (hB : BytesOK) : okL 218 185 T218_94 = true := (okL_c (o218_93 hB)).2.2
theorem o218_95 (hB : BytesOK) : okL 218 188 T218_95 = true := (okL_c (o218_94 hB)).2.2
theorem o218_96 (hB : BytesOK) : okL 218 190 T218_96 = true := (okL_c (o218_95 hB)).2.2
theorem o218_97 (hB : BytesOK) : okL 218 193 T218_97 = true := (okL_c (o218_96 hB)).2.2
theorem o218_98 (hB : BytesOK) : okL 218 194 T218_98 = true := (okL_c (o218_97 hB)).2.2
theorem o218_99 (hB : BytesOK) : okL 218 197 T218_99 = true := (okL_c (o218_98 hB)).2.2
theorem o218_100 (hB : BytesOK) : okL 218 200 T218_100 = true := (okL_c (o218_99 hB)).2.2
theorem o218_101 (hB : BytesOK) : okL 218 201 T218_101 = true := (okL_c (o218_100 hB)).2.2
theorem o218_102 (hB : BytesOK) : okL 218 204 T218_102 = true := (okL_c (o218_101 hB)).2.2
theorem o218_103 (hB : BytesOK) : okL 218 205 T218_103 = true := (okL_c (o218_102 hB)).2.2
theorem o218_104 (hB : BytesOK) : okL 218 208 T218_104 = true := (okL_c (o218_103 hB)).2.2
theorem o218_105 (hB : BytesOK) : okL 218 209 T218_105 = true := (okL_c (o218_104 hB)).2.2
theorem o218_106 (hB : BytesOK) : okL 218 212 T218_106 = true := (okL_c (o218_105 hB)).2.2
theorem o218_107 (hB : BytesOK) : okL 218 215 T218_107 = true := (okL_c (o218_106 hB)).2.2
theorem o218_108 (hB : BytesOK) : okL 218 216 T218_108 = true := (okL_c (o218_107 hB)).2.2
theorem o218_109 (hB : BytesOK) : okL 218 219 T218_109 = true := (okL_c (o218_108 hB)).2.2
theorem o218_110 (hB : BytesOK) : okL 218 220 T218_110 = true := (okL_c (o218_109 hB)).2.2
theorem o218_111 (hB : BytesOK) : okL 218 221 T218_111 = true := (okL_c (o218_110 hB)).2.2
theorem o218_112 (hB : BytesOK) : okL 218 224 T218_112 = true := (okL_c (o218_111 hB)).2.2
theorem o218_113 (hB : BytesOK) : okL 218 225 T218_113 = true := (okL_c (o218_112 hB)).2.2
theorem o218_114 (hB : BytesOK) : okL 218 228 T218_114 = true := (okL_c (o218_113 hB)).2.2
theorem o218_115 (hB : BytesOK) : okL 218 230 T218_115 = true := (okL_c (o218_114 hB)).2.2
theorem o218_116 (hB : BytesOK) : okL 218 231 T218_116 = true := (okL_c (o218_115 hB)).2.2
theorem o218_117 (hB : BytesOK) : okL 218 234 T218_117 = true := (okL_c (o218_116 hB)).2.2
theorem o218_118 (hB : BytesOK) : okL 218 237 T218_118 = true := (okL_c (o218_117 hB)).2.2
theorem o218_119 (hB : BytesOK) : okL 218 239 T218_119 = true := (okL_c (o218_118 hB)).2.2
theorem o218_120 (hB : BytesOK) : okL 218 241 T218_120 = true := (okL_c (o218_119 hB)).2.2
theorem o218_121 (hB : BytesOK) : okL 218 244 T218_121 = true := (okL_c (o218_120 hB)).2.2
theorem o218_122 (hB : BytesOK) : okL 218 246 T218_122 = true := (okL_c (o218_121 hB)).2.2
theorem o218_123 (hB : BytesOK) : okL 218 248 T218_123 = true := (okL_c (o218_122 hB)).2.2
theorem o218_124 (hB : BytesOK) : okL 218 251 T218_124 = true := (okL_c (o218_123 hB)).2.2
theorem o218_125 (hB : BytesOK) : okL 218 253 T218_125 = true := (okL_c (o218_124 hB)).2.2
theorem o218_126 (hB : BytesOK) : okL 218 255 T218_126 = true := (okL_c (o218_125 hB)).2.2
theorem o218_127 (hB : BytesOK) : okL 218 258 T218_127 = true := (okL_c (o218_126 hB)).2.2
theorem o218_128 (hB : BytesOK) : okL 218 259 T218_128 = true := (okL_c (o218_127 hB)).2.2
theorem o218_129 (hB : BytesOK) : okL 218 262 T218_129 = true := (okL_c (o218_128 hB)).2.2
theorem o218_130 (hB : BytesOK) : okL 218 263 T218_130 = true := (okL_c (o218_129 hB)).2.2
theorem o218_131 (hB : BytesOK) : okL 218 264 T218_131 = true := (okL_c (o218_130 hB)).2.2
theorem o218_132 (hB : BytesOK) : okL 218 265 T218_132 = true := (okL_c (o218_131 hB)).2.2
theorem o218_133 (hB : BytesOK) : okL 218 268 T218_133 = true := (okL_c (o218_132 hB)).2.2
theorem o218_134 (hB : BytesOK) : okL 218 269 T218_134 = true := (okL_c (o218_133 hB)).2.2
theorem o218_135 (hB : BytesOK) : okL 218 270 T218_135 = true := (okL_c (o218_134 hB)).2.2
theorem o218_136 (hB : BytesOK) : okL 218 273 T218_136 = true := (okL_c (o218_135 hB)).2.2
theorem o218_137 (hB : BytesOK) : okL 218 276 T218_137 = true := (okL_c (o218_136 hB)).2.2
theorem o218_138 (hB : BytesOK) : okL 218 278 T218_138 = true := (okL_c (o218_137 hB)).2.2
theorem o218_139 (hB : BytesOK) : okL 218 280 T218_139 = true := (okL_c (o218_138 hB)).2.2
theorem o218_140 (hB : BytesOK) : okL 218 282 T218_140 = true := (okL_c (o218_139 hB)).2.2
theorem o218_141 (hB : BytesOK) : okL 218 285 T218_141 = true := (okL_c (o218_140 hB)).2.2
theorem o218_142 (hB : BytesOK) : okL 218 286 T218_142 = true := (okL_c (o218_141 hB)).2.2
theorem o218_143 (hB : BytesOK) : okL 218 288 T218_143 = true := (okL_c (o218_142 hB)).2.2
theorem o218_144 (hB : BytesOK) : okL 218 291 T218_144 = true := (okL_c (o218_143 hB)).2.2
theorem o218_145 (hB : BytesOK) : okL 218 292 T218_145 = true := (okL_c (o218_144 hB)).2.2
theorem o218_146 (hB : BytesOK) : okL 218 295 T218_146 = true := (okL_c (o218_145 hB)).2.2
theorem o218_147 (hB : BytesOK) : okL 218 296 T218_147 = true := (okL_c (o218_146 hB)).2.2
theorem o218_148 (hB : BytesOK) : okL 218 299 T218_148 = true := (okL_c (o218_147 hB)).2.2
theorem o218_149 (hB : BytesOK) : okL 218 301 T218_149 = true := (okL_c (o218_148 hB)).2.2
theorem o218_150 (hB : BytesOK) : okL 218 303 T218_150 = true := (okL_c (o218_149 hB)).2.2
theorem o218_151 (hB : BytesOK) : okL 218 306 T218_151 = true := (okL_c (o218_150 hB)).2.2
theorem o218_152 (hB : BytesOK) : okL 218 307 T218_152 = true := (okL_c (o218_151 hB)).2.2
theorem o218_153 (hB : BytesOK) : okL 218 309 T218_153 = true := (okL_c (o218_152 hB)).2.2
theorem o218_154 (hB : BytesOK) : okL 218 312 T218_154 = true := (okL_c (o218_153 hB)).2.2
theorem o218_155 (hB : BytesOK) : okL 218 313 T218_155 = true := (okL_c (o218_154 hB)).2.2
theorem o218_156 (hB : BytesOK) : okL 218 316 T218_156 = true := (okL_c (o218_155 hB)).2.2
theorem o218_157 (hB : BytesOK) : okL 218 317 T218_157 = true := (okL_c (o218_156 hB)).2.2
theorem o218_158 (hB : BytesOK) : okL 218 320 T218_158 = true := (okL_c (o218_157 hB)).2.2
theorem o218_159 (hB : BytesOK) : okL 218 321 T218_159 = true := (okL_c (o218_158 hB)).2.2
theorem o218_160 (hB : BytesOK) : okL 218 323 T218_160 = true := (okL_c (o218_159 hB)).2.2
theorem o218_161 (hB : BytesOK) : okL 218 326 T218_161 = true := (okL_c (o218_160 hB)).2.2
theorem o218_162 (hB : BytesOK) : okL 218 327 T218_162 = true := (okL_c (o218_161 hB)).2.2
theorem o218_163 (hB : BytesOK) : okL 218 330 T218_163 = true := (okL_c (o218_162 hB)).2.2
theorem o218_164 (hB : BytesOK) : okL 218 331 T218_164 = true := (okL_c (o218_163 hB)).2.2
theorem o218_165 (hB : BytesOK) : okL 218 332 T218_165 = true := (okL_c (o218_164 hB)).2.2
theorem o218_166 (hB : BytesOK) : okL 218 335 T218_166 = true := (okL_c (o218_165 hB)).2.2
theorem o218_167 (hB : BytesOK) : okL 218 336 T218_167 = true := (okL_c (o218_166 hB)).2.2
theorem o218_168 (hB : BytesOK) : okL 218 339 T218_168 = true := (okL_c (o218_167 hB)).2.2
theorem o218_169 (hB : BytesOK) : okL 218 340 T218_169 = true := (okL_c (o218_168 hB)).2.2
theorem o218_170 (hB : BytesOK) : okL 218 341 T218_170 = true := (okL_c (o218_169 hB)).2.2
theorem o218_171 (hB : BytesOK) : okL 218 344 T218_171 = true := (okL_c (o218_170 hB)).2.2
theorem o218_172 (hB : BytesOK) : okL 218 345 T218_172 = true := (okL_c (o218_171 hB)).2.2
theorem o218_173 (hB : BytesOK) : okL 218 348 T218_173 = true := (okL_c (o218_172 hB)).2.2
theorem o218_174 (hB : BytesOK) : okL 218 349 T218_174 = true := (okL_c (o218_173 hB)).2.2
theorem ml218 : mml 218 = 6 := by decide +kernel
theorem mr218 : mret 218 = some .boolean := by decide +kernel
theorem mg218 : kGood 218 = true := by decide +kernel

def T219_20 : List Tok := []
def T219_19 : List Tok := (.ireturn, 1, 0, 0) :: T219_20
def T219_18 : List Tok := (.iload_n 1, 1, 0, 0) :: T219_19
def T219_17 : List Tok := (.goto (-24), 3, 0, 0) :: T219_18
def T219_16 : List Tok := (.istore_n 1, 1, 0, 0) :: T219_17
def T219_15 : List Tok := (.iand, 1, 0, 0) :: T219_16
def T219_14 : List Tok := (.iload_n 2, 1, 0, 0) :: T219_15
def T219_13 : List Tok := (.iload_n 1, 1, 0, 0) :: T219_14
def T219_12 : List Tok := (.istore_n 2, 1, 0, 0) :: T219_13
def T219_11 : List Tok := (.invokevirtual 177, 3, 218, 1648) :: T219_12
def T219_10 : List Tok := (.aload_n 0, 1, 0, 0) :: T219_11
def T219_9 : List Tok := (.invokevirtual 145, 3, 212, 1596) :: T219_10
def T219_8 : List Tok := (.aload_n 0, 1, 0, 0) :: T219_9
def T219_7 : List Tok := (.ifCond .eq 19, 3, 0, 0) :: T219_8
def T219_6 : List Tok := (.invokevirtual 142, 3, 215, 1608) :: T219_7
def T219_5 : List Tok := (.bipush 14, 2, 0, 0) :: T219_6
def T219_4 : List Tok := (.bipush 14, 2, 0, 0) :: T219_5
def T219_3 : List Tok := (.aload_n 0, 1, 0, 0) :: T219_4
def T219_2 : List Tok := (.istore_n 1, 1, 0, 0) :: T219_3
def T219_1 : List Tok := (.invokevirtual 177, 3, 218, 1648) :: T219_2
def T219_0 : List Tok := (.aload_n 0, 1, 0, 0) :: T219_1
theorem o219_0 (hB : BytesOK) : okL 219 0 T219_0 = true := by
  have h := hB.1 219
  rw [show tk 219 = T219_0 from by decide +kernel] at h
  exact h
theorem o219_1 (hB : BytesOK) : okL 219 1 T219_1 = true := (okL_c (o219_0 hB)).2.2
theorem o219_2 (hB : BytesOK) : okL 219 4 T219_2 = true := (okL_c (o219_1 hB)).2.2
theorem o219_3 (hB : BytesOK) : okL 219 5 T219_3 = true := (okL_c (o219_2 hB)).2.2
theorem o219_4 (hB : BytesOK) : okL 219 6 T219_4 = true := (okL_c (o219_3 hB)).2.2
theorem o219_5 (hB : BytesOK) : okL 219 8 T219_5 = true := (okL_c (o219_4 hB)).2.2
theorem o219_6 (hB : BytesOK) : okL 219 10 T219_6 = true := (okL_c (o219_5 hB)).2.2
theorem o219_7 (hB : BytesOK) : okL 219 13 T219_7 = true := (okL_c (o219_6 hB)).2.2
theorem o219_8 (hB : BytesOK) : okL 219 16 T219_8 = true := (okL_c (o219_7 hB)).2.2
theorem o219_9 (hB : BytesOK) : okL 219 17 T219_9 = true := (okL_c (o219_8 hB)).2.2
theorem o219_10 (hB : BytesOK) : okL 219 20 T219_10 = true := (okL_c (o219_9 hB)).2.2
theorem o219_11 (hB : BytesOK) : okL 219 21 T219_11 = true := (okL_c (o219_10 hB)).2.2
theorem o219_12 (hB : BytesOK) : okL 219 24 T219_12 = true := (okL_c (o219_11 hB)).2.2
theorem o219_13 (hB : BytesOK) : okL 219 25 T219_13 = true := (okL_c (o219_12 hB)).2.2
theorem o219_14 (hB : BytesOK) : okL 219 26 T219_14 = true := (okL_c (o219_13 hB)).2.2
theorem o219_15 (hB : BytesOK) : okL 219 27 T219_15 = true := (okL_c (o219_14 hB)).2.2
theorem o219_16 (hB : BytesOK) : okL 219 28 T219_16 = true := (okL_c (o219_15 hB)).2.2
theorem o219_17 (hB : BytesOK) : okL 219 29 T219_17 = true := (okL_c (o219_16 hB)).2.2
theorem o219_18 (hB : BytesOK) : okL 219 32 T219_18 = true := (okL_c (o219_17 hB)).2.2
theorem o219_19 (hB : BytesOK) : okL 219 33 T219_19 = true := (okL_c (o219_18 hB)).2.2
theorem ml219 : mml 219 = 3 := by decide +kernel
theorem mr219 : mret 219 = some .boolean := by decide +kernel
theorem mg219 : kGood 219 = true := by decide +kernel

def T220_20 : List Tok := []
def T220_19 : List Tok := (.ireturn, 1, 0, 0) :: T220_20
def T220_18 : List Tok := (.iload_n 1, 1, 0, 0) :: T220_19
def T220_17 : List Tok := (.goto (-24), 3, 0, 0) :: T220_18
def T220_16 : List Tok := (.istore_n 1, 1, 0, 0) :: T220_17
def T220_15 : List Tok := (.ior, 1, 0, 0) :: T220_16
def T220_14 : List Tok := (.iload_n 2, 1, 0, 0) :: T220_15
def T220_13 : List Tok := (.iload_n 1, 1, 0, 0) :: T220_14
def T220_12 : List Tok := (.istore_n 2, 1, 0, 0) :: T220_13
def T220_11 : List Tok := (.invokevirtual 180, 3, 219, 1644) :: T220_12
def T220_10 : List Tok := (.aload_n 0, 1, 0, 0) :: T220_11
def T220_9 : List Tok := (.invokevirtual 145, 3, 212, 1596) :: T220_10
def T220_8 : List Tok := (.aload_n 0, 1, 0, 0) :: T220_9
def T220_7 : List Tok := (.ifCond .eq 19, 3, 0, 0) :: T220_8
def T220_6 : List Tok := (.invokevirtual 142, 3, 215, 1608) :: T220_7
def T220_5 : List Tok := (.bipush 13, 2, 0, 0) :: T220_6
def T220_4 : List Tok := (.bipush 13, 2, 0, 0) :: T220_5
def T220_3 : List Tok := (.aload_n 0, 1, 0, 0) :: T220_4
def T220_2 : List Tok := (.istore_n 1, 1, 0, 0) :: T220_3
def T220_1 : List Tok := (.invokevirtual 180, 3, 219, 1644) :: T220_2
def T220_0 : List Tok := (.aload_n 0, 1, 0, 0) :: T220_1
theorem o220_0 (hB : BytesOK) : okL 220 0 T220_0 = true := by
  have h := hB.1 220
  rw [show tk 220 = T220_0 from by decide +kernel] at h
  exact h
theorem o220_1 (hB : BytesOK) : okL 220 1 T220_1 = true := (okL_c (o220_0 hB)).2.2
theorem o220_2 (hB : BytesOK) : okL 220 4 T220_2 = true := (okL_c (o220_1 hB)).2.2
theorem o220_3 (hB : BytesOK) : okL 220 5 T220_3 = true := (okL_c (o220_2 hB)).2.2
theorem o220_4 (hB : BytesOK) : okL 220 6 T220_4 = true := (okL_c (o220_3 hB)).2.2
theorem o220_5 (hB : BytesOK) : okL 220 8 T220_5 = true := (okL_c (o220_4 hB)).2.2
theorem o220_6 (hB : BytesOK) : okL 220 10 T220_6 = true := (okL_c (o220_5 hB)).2.2
theorem o220_7 (hB : BytesOK) : okL 220 13 T220_7 = true := (okL_c (o220_6 hB)).2.2
theorem o220_8 (hB : BytesOK) : okL 220 16 T220_8 = true := (okL_c (o220_7 hB)).2.2
theorem o220_9 (hB : BytesOK) : okL 220 17 T220_9 = true := (okL_c (o220_8 hB)).2.2
theorem o220_10 (hB : BytesOK) : okL 220 20 T220_10 = true := (okL_c (o220_9 hB)).2.2
theorem o220_11 (hB : BytesOK) : okL 220 21 T220_11 = true := (okL_c (o220_10 hB)).2.2
theorem o220_12 (hB : BytesOK) : okL 220 24 T220_12 = true := (okL_c (o220_11 hB)).2.2
theorem o220_13 (hB : BytesOK) : okL 220 25 T220_13 = true := (okL_c (o220_12 hB)).2.2
theorem o220_14 (hB : BytesOK) : okL 220 26 T220_14 = true := (okL_c (o220_13 hB)).2.2
theorem o220_15 (hB : BytesOK) : okL 220 27 T220_15 = true := (okL_c (o220_14 hB)).2.2
theorem o220_16 (hB : BytesOK) : okL 220 28 T220_16 = true := (okL_c (o220_15 hB)).2.2
theorem o220_17 (hB : BytesOK) : okL 220 29 T220_17 = true := (okL_c (o220_16 hB)).2.2
theorem o220_18 (hB : BytesOK) : okL 220 32 T220_18 = true := (okL_c (o220_17 hB)).2.2
theorem o220_19 (hB : BytesOK) : okL 220 33 T220_19 = true := (okL_c (o220_18 hB)).2.2
theorem ml220 : mml 220 = 3 := by decide +kernel
theorem mr220 : mret 220 = some .boolean := by decide +kernel
theorem mg220 : kGood 220 = true := by decide +kernel

def T221_68 : List Tok := []
def T221_67 : List Tok := (.ireturn, 1, 0, 0) :: T221_68
def T221_66 : List Tok := (.iaload, 1, 0, 0) :: T221_67
def T221_65 : List Tok := (.iconst 0, 1, 0, 0) :: T221_66
def T221_64 : List Tok := (.getfield 31, 3, 728, 1369) :: T221_65
def T221_63 : List Tok := (.aload_n 0, 1, 0, 0) :: T221_64
def T221_62 : List Tok := (.goto (-95), 3, 0, 0) :: T221_63
def T221_61 : List Tok := (.iastore, 1, 0, 0) :: T221_62
def T221_60 : List Tok := (.invokevirtual 174, 3, 217, 1632) :: T221_61
def T221_59 : List Tok := (.sipush 999, 3, 0, 0) :: T221_60
def T221_58 : List Tok := (.iconst 0, 1, 0, 0) :: T221_59
def T221_57 : List Tok := (.aload_n 0, 1, 0, 0) :: T221_58
def T221_56 : List Tok := (.getfield 183, 3, 729, 1370) :: T221_57
def T221_55 : List Tok := (.aload_n 0, 1, 0, 0) :: T221_56
def T221_54 : List Tok := (.getfield 31, 3, 728, 1369) :: T221_55
def T221_53 : List Tok := (.aload_n 0, 1, 0, 0) :: T221_54
def T221_52 : List Tok := (.putfield 183, 3, 729, 1370) :: T221_53
def T221_51 : List Tok := (.iadd, 1, 0, 0) :: T221_52
def T221_50 : List Tok := (.iconst 1, 1, 0, 0) :: T221_51
def T221_49 : List Tok := (.getfield 183, 3, 729, 1370) :: T221_50
def T221_48 : List Tok := (.dup, 1, 0, 0) :: T221_49
def T221_47 : List Tok := (.aload_n 0, 1, 0, 0) :: T221_48
def T221_46 : List Tok := (.invokevirtual 186, 3, 216, 1620) :: T221_47
def T221_45 : List Tok := (.iconst 1, 1, 0, 0) :: T221_46
def T221_44 : List Tok := (.aload_n 0, 1, 0, 0) :: T221_45
def T221_43 : List Tok := (.iastore, 1, 0, 0) :: T221_44
def T221_42 : List Tok := (.invokevirtual 174, 3, 217, 1632) :: T221_43
def T221_41 : List Tok := (.sipush 999, 3, 0, 0) :: T221_42
def T221_40 : List Tok := (.iadd, 1, 0, 0) :: T221_41
def T221_39 : List Tok := (.iconst 1, 1, 0, 0) :: T221_40
def T221_38 : List Tok := (.iaload, 1, 0, 0) :: T221_39
def T221_37 : List Tok := (.isub, 1, 0, 0) :: T221_38
def T221_36 : List Tok := (.iconst 1, 1, 0, 0) :: T221_37
def T221_35 : List Tok := (.getfield 183, 3, 729, 1370) :: T221_36
def T221_34 : List Tok := (.aload_n 0, 1, 0, 0) :: T221_35
def T221_33 : List Tok := (.getfield 28, 3, 727, 1368) :: T221_34
def T221_32 : List Tok := (.aload_n 0, 1, 0, 0) :: T221_33
def T221_31 : List Tok := (.goto 16, 3, 0, 0) :: T221_32
def T221_30 : List Tok := (.iconst 0, 1, 0, 0) :: T221_31
def T221_29 : List Tok := (.ifCond .ne 7, 3, 0, 0) :: T221_30
def T221_28 : List Tok := (.getfield 183, 3, 729, 1370) :: T221_29
def T221_27 : List Tok := (.aload_n 0, 1, 0, 0) :: T221_28
def T221_26 : List Tok := (.aload_n 0, 1, 0, 0) :: T221_27
def T221_25 : List Tok := (.getfield 183, 3, 729, 1370) :: T221_26
def T221_24 : List Tok := (.aload_n 0, 1, 0, 0) :: T221_25
def T221_23 : List Tok := (.getfield 28, 3, 727, 1368) :: T221_24
def T221_22 : List Tok := (.aload_n 0, 1, 0, 0) :: T221_23
def T221_21 : List Tok := (.invokevirtual 145, 3, 212, 1596) :: T221_22
def T221_20 : List Tok := (.aload_n 0, 1, 0, 0) :: T221_21
def T221_19 : List Tok := (.ifCond .eq 82, 3, 0, 0) :: T221_20
def T221_18 : List Tok := (.invokevirtual 142, 3, 215, 1608) :: T221_19
def T221_17 : List Tok := (.bipush 7, 2, 0, 0) :: T221_18
def T221_16 : List Tok := (.bipush 7, 2, 0, 0) :: T221_17
def T221_15 : List Tok := (.aload_n 0, 1, 0, 0) :: T221_16
def T221_14 : List Tok := (.if_icmp .ge 93, 3, 0, 0) :: T221_15
def T221_13 : List Tok := (.iconst 3, 1, 0, 0) :: T221_14
def T221_12 : List Tok := (.getfield 183, 3, 729, 1370) :: T221_13
def T221_11 : List Tok := (.aload_n 0, 1, 0, 0) :: T221_12
def T221_10 : List Tok := (.putfield 183, 3, 729, 1370) :: T221_11
def T221_9 : List Tok := (.iconst 0, 1, 0, 0) :: T221_10
def T221_8 : List Tok := (.aload_n 0, 1, 0, 0) :: T221_9
def T221_7 : List Tok := (.iastore, 1, 0, 0) :: T221_8
def T221_6 : List Tok := (.invokevirtual 174, 3, 217, 1632) :: T221_7
def T221_5 : List Tok := (.sipush 999, 3, 0, 0) :: T221_6
def T221_4 : List Tok := (.iconst 0, 1, 0, 0) :: T221_5
def T221_3 : List Tok := (.aload_n 0, 1, 0, 0) :: T221_4
def T221_2 : List Tok := (.iconst 0, 1, 0, 0) :: T221_3
def T221_1 : List Tok := (.getfield 31, 3, 728, 1369) :: T221_2
def T221_0 : List Tok := (.aload_n 0, 1, 0, 0) :: T221_1
theorem o221_0 (hB : BytesOK) : okL 221 0 T221_0 = true := by
  have h := hB.1 221
  rw [show tk 221 = T221_0 from by decide +kernel] at h
  exact h
theorem o221_1 (hB : BytesOK) : okL 221 1 T221_1 = true := (okL_c (o221_0 hB)).2.2
theorem o221_2 (hB : BytesOK) : okL 221 4 T221_2 = true := (okL_c (o221_1 hB)).2.2
theorem o221_3 (hB : BytesOK) : okL 221 5 T221_3 = true := (okL_c (o221_2 hB)).2.2
theorem o221_4 (hB : BytesOK) : okL 221 6 T221_4 = true := (okL_c (o221_3 hB)).2.2
theorem o221_5 (hB : BytesOK) : okL 221 7 T221_5 = true := (okL_c (o221_4 hB)).2.2
theorem o221_6 (hB : BytesOK) : okL 221 10 T221_6 = true := (okL_c (o221_5 hB)).2.2
theorem o221_7 (hB : BytesOK) : okL 221 13 T221_7 = true := (okL_c (o221_6 hB)).2.2
theorem o221_8 (hB : BytesOK) : okL 221 14 T221_8 = true := (okL_c (o221_7 hB)).2.2
theorem o221_9 (hB : BytesOK) : okL 221 15 T221_9 = true := (okL_c (o221_8 hB)).2.2
theorem o221_10 (hB : BytesOK) : okL 221 16 T221_10 = true := (okL_c (o221_9 hB)).2.2
theorem o221_11 (hB : BytesOK) : okL 221 19 T221_11 = true := (okL_c (o221_10 hB)).2.2
theorem o221_12 (hB : BytesOK) : okL 221 20 T221_12 = true := (okL_c (o221_11 hB)).2.2
theorem o221_13 (hB : BytesOK) : okL 221 23 T221_13 = true := (okL_c (o221_12 hB)).2.2
theorem o221_14 (hB : BytesOK) : okL 221 24 T221_14 = true := (okL_c (o221_13 hB)).2.2
theorem o221_15 (hB : BytesOK) : okL 221 27 T221_15 = true := (okL_c (o221_14 hB)).2.2
theorem o221_16 (hB : BytesOK) : okL 221 28 T221_16 = true := (okL_c (o221_15 hB)).2.2
theorem o221_17 (hB : BytesOK) : okL 221 30 T221_17 = true := (okL_c (o221_16 hB)).2.2
theorem o221_18 (hB : BytesOK) : okL 221 32 T221_18 = true := (okL_c (o221_17 hB)).2.2
theorem o221_19 (hB : BytesOK) : okL 221 35 T221_19 = true := (okL_c (o221_18 hB)).2.2
theorem o221_20 (hB : BytesOK) : okL 221 38 T221_20 = true := (okL_c (o221_19 hB)).2.2
theorem o221_21 (hB : BytesOK) : okL 221 39 T221_21 = true := (okL_c (o221_20 hB)).2.2
theorem o221_22 (hB : BytesOK) : okL 221 42 T221_22 = true := (okL_c (o221_21 hB)).2.2
theorem o221_23 (hB : BytesOK) : okL 221 43 T221_23 = true := (okL_c (o221_22 hB)).2.2
theorem o221_24 (hB : BytesOK) : okL 221 46 T221_24 = true := (okL_c (o221_23 hB)).2.2
theorem o221_25 (hB : BytesOK) : okL 221 47 T221_25 = true := (okL_c (o221_24 hB)).2.2
theorem o221_26 (hB : BytesOK) : okL 221 50 T221_26 = true := (okL_c (o221_25 hB)).2.2
theorem o221_27 (hB : BytesOK) : okL 221 51 T221_27 = true := (okL_c (o221_26 hB)).2.2
theorem o221_28 (hB : BytesOK) : okL 221 52 T221_28 = true := (okL_c (o221_27 hB)).2.2
theorem o221_29 (hB : BytesOK) : okL 221 55 T221_29 = true := (okL_c (o221_28 hB)).2.2
theorem o221_30 (hB : BytesOK) : okL 221 58 T221_30 = true := (okL_c (o221_29 hB)).2.2
theorem o221_31 (hB : BytesOK) : okL 221 59 T221_31 = true := (okL_c (o221_30 hB)).2.2
theorem o221_32 (hB : BytesOK) : okL 221 62 T221_32 = true := (okL_c (o221_31 hB)).2.2
theorem o221_33 (hB : BytesOK) : okL 221 63 T221_33 = true := (okL_c (o221_32 hB)).2.2
theorem o221_34 (hB : BytesOK) : okL 221 66 T221_34 = true := (okL_c (o221_33 hB)).2.2
theorem o221_35 (hB : BytesOK) : okL 221 67 T221_35 = true := (okL_c (o221_34 hB)).2.2
theorem o221_36 (hB : BytesOK) : okL 221 70 T221_36 = true := (okL_c (o221_35 hB)).2.2
theorem o221_37 (hB : BytesOK) : okL 221 71 T221_37 = true := (okL_c (o221_36 hB)).2.2
theorem o221_38 (hB : BytesOK) : okL 221 72 T221_38 = true := (okL_c (o221_37 hB)).2.2
theorem o221_39 (hB : BytesOK) : okL 221 73 T221_39 = true := (okL_c (o221_38 hB)).2.2
theorem o221_40 (hB : BytesOK) : okL 221 74 T221_40 = true := (okL_c (o221_39 hB)).2.2
theorem o221_41 (hB : BytesOK) : okL 221 75 T221_41 = true := (okL_c (o221_40 hB)).2.2
theorem o221_42 (hB : BytesOK) : okL 221 78 T221_42 = true := (okL_c (o221_41 hB)).2.2
theorem o221_43 (hB : BytesOK) : okL 221 81 T221_43 = true := (okL_c (o221_42 hB)).2.2
theorem o221_44 (hB : BytesOK) : okL 221 82 T221_44 = true := (okL_c (o221_43 hB)).2.2
theorem o221_45 (hB : BytesOK) : okL 221 83 T221_45 = true := (okL_c (o221_44 hB)).2.2
theorem o221_46 (hB : BytesOK) : okL 221 84 T221_46 = true := (okL_c (o221_45 hB)).2.2
theorem o221_47 (hB : BytesOK) : okL 221 87 T221_47 = true := (okL_c (o221_46 hB)).2.2
theorem o221_48 (hB : BytesOK) : okL 221 88 T221_48 = true := (okL_c (o221_47 hB)).2.2
theorem o221_49 (hB : BytesOK) : okL 221 89 T221_49 = true := (okL_c (o221_48 hB)).2.2
theorem o221_50 (hB : BytesOK) : okL 221 92 T221_50 = true := (okL_c (o221_49 hB)).2.2
theorem o221_51 (hB : BytesOK) : okL 221 93 T221_51 = true := (okL_c (o221_50 hB)).2.2
theorem o221_52 (hB : BytesOK) : okL 221 94 T221_52 = true := (okL_c (o221_51 hB)).2.2
theorem o221_53 (hB : BytesOK) : okL 221 97 T221_53 = true := (okL_c (o221_52 hB)).2.2
theorem o221_54 (hB : BytesOK) : okL 221 98 T221_54 = true := (okL_c (o221_53 hB)).2.2
theorem o221_55 (hB : BytesOK) : okL 221 101 T221_55 = true := (okL_c (o221_54 hB)).2.2
theorem o221_56 (hB : BytesOK) : okL 221 102 T221_56 = true := (okL_c (o221_55 hB)).2.2
theorem o221_57 (hB : BytesOK) : okL 221 105 T221_57 = true := (okL_c (o221_56 hB)).2.2
theorem o221_58 (hB : BytesOK) : okL 221 106 T221_58 = true := (okL_c (o221_57 hB)).2.2
theorem o221_59 (hB : BytesOK) : okL 221 107 T221_59 = true := (okL_c (o221_58 hB)).2.2
theorem o221_60 (hB : BytesOK) : okL 221 110 T221_60 = true := (okL_c (o221_59 hB)).2.2
theorem o221_61 (hB : BytesOK) : okL 221 113 T221_61 = true := (okL_c (o221_60 hB)).2.2
theorem o221_62 (hB : BytesOK) : okL 221 114 T221_62 = true := (okL_c (o221_61 hB)).2.2
theorem o221_63 (hB : BytesOK) : okL 221 117 T221_63 = true := (okL_c (o221_62 hB)).2.2
theorem o221_64 (hB : BytesOK) : okL 221 118 T221_64 = true := (okL_c (o221_63 hB)).2.2
theorem o221_65 (hB : BytesOK) : okL 221 121 T221_65 = true := (okL_c (o221_64 hB)).2.2
theorem o221_66 (hB : BytesOK) : okL 221 122 T221_66 = true := (okL_c (o221_65 hB)).2.2
theorem o221_67 (hB : BytesOK) : okL 221 123 T221_67 = true := (okL_c (o221_66 hB)).2.2
theorem ml221 : mml 221 = 1 := by decide +kernel
theorem mr221 : mret 221 = some .int := by decide +kernel
theorem mg221 : kGood 221 = true := by decide +kernel

def T222_23 : List Tok := []
def T222_22 : List Tok := (.ireturn, 1, 0, 0) :: T222_23
def T222_21 : List Tok := (.getfield 190, 3, 726, 1367) :: T222_22
def T222_20 : List Tok := (.aload_n 0, 1, 0, 0) :: T222_21
def T222_19 : List Tok := (.invokevirtual 145, 3, 212, 1596) :: T222_20
def T222_18 : List Tok := (.aload_n 0, 1, 0, 0) :: T222_19
def T222_17 : List Tok := (.putfield 190, 3, 726, 1367) :: T222_18
def T222_16 : List Tok := (.isub, 1, 0, 0) :: T222_17
def T222_15 : List Tok := (.bipush 10, 2, 0, 0) :: T222_16
def T222_14 : List Tok := (.getfield 133, 3, 715, 1356) :: T222_15
def T222_13 : List Tok := (.aload_n 0, 1, 0, 0) :: T222_14
def T222_12 : List Tok := (.aload_n 0, 1, 0, 0) :: T222_13
def T222_11 : List Tok := (.ireturn, 1, 0, 0) :: T222_12
def T222_10 : List Tok := (.iconst 0, 1, 0, 0) :: T222_11
def T222_9 : List Tok := (.invokevirtual 148, 3, 214, 1624) :: T222_10
def T222_8 : List Tok := (.aload_n 0, 1, 0, 0) :: T222_9
def T222_7 : List Tok := (.ifCond .ne 9, 3, 0, 0) :: T222_8
def T222_6 : List Tok := (.invokevirtual 142, 3, 215, 1608) :: T222_7
def T222_5 : List Tok := (.bipush 12, 2, 0, 0) :: T222_6
def T222_4 : List Tok := (.bipush 10, 2, 0, 0) :: T222_5
def T222_3 : List Tok := (.aload_n 0, 1, 0, 0) :: T222_4
def T222_2 : List Tok := (.invokevirtual 186, 3, 216, 1620) :: T222_3
def T222_1 : List Tok := (.bipush 6, 2, 0, 0) :: T222_2
def T222_0 : List Tok := (.aload_n 0, 1, 0, 0) :: T222_1
theorem o222_0 (hB : BytesOK) : okL 222 0 T222_0 = true := by
  have h := hB.1 222
  rw [show tk 222 = T222_0 from by decide +kernel] at h
  exact h
theorem o222_1 (hB : BytesOK) : okL 222 1 T222_1 = true := (okL_c (o222_0 hB)).2.2
theorem o222_2 (hB : BytesOK) : okL 222 3 T222_2 = true := (okL_c (o222_1 hB)).2.2
theorem o222_3 (hB : BytesOK) : okL 222 6 T222_3 = true := (okL_c (o222_2 hB)).2.2
theorem o222_4 (hB : BytesOK) : okL 222 7 T222_4 = true := (okL_c (o222_3 hB)).2.2
theorem o222_5 (hB : BytesOK) : okL 222 9 T222_5 = true := (okL_c (o222_4 hB)).2.2
theorem o222_6 (hB : BytesOK) : okL 222 11 T222_6 = true := (okL_c (o222_5 hB)).2.2
theorem o222_7 (hB : BytesOK) : okL 222 14 T222_7 = true := (okL_c (o222_6 hB)).2.2
theorem o222_8 (hB : BytesOK) : okL 222 17 T222_8 = true := (okL_c (o222_7 hB)).2.2
theorem o222_9 (hB : BytesOK) : okL 222 18 T222_9 = true := (okL_c (o222_8 hB)).2.2
theorem o222_10 (hB : BytesOK) : okL 222 21 T222_10 = true := (okL_c (o222_9 hB)).2.2
theorem o222_11 (hB : BytesOK) : okL 222 22 T222_11 = true := (okL_c (o222_10 hB)).2.2
theorem o222_12 (hB : BytesOK) : okL 222 23 T222_12 = true := (okL_c (o222_11 hB)).2.2
theorem o222_13 (hB : BytesOK) : okL 222 24 T222_13 = true := (okL_c (o222_12 hB)).2.2
theorem o222_14 (hB : BytesOK) : okL 222 25 T222_14 = true := (okL_c (o222_13 hB)).2.2
theorem o222_15 (hB : BytesOK) : okL 222 28 T222_15 = true := (okL_c (o222_14 hB)).2.2
theorem o222_16 (hB : BytesOK) : okL 222 30 T222_16 = true := (okL_c (o222_15 hB)).2.2
theorem o222_17 (hB : BytesOK) : okL 222 31 T222_17 = true := (okL_c (o222_16 hB)).2.2
theorem o222_18 (hB : BytesOK) : okL 222 34 T222_18 = true := (okL_c (o222_17 hB)).2.2
theorem o222_19 (hB : BytesOK) : okL 222 35 T222_19 = true := (okL_c (o222_18 hB)).2.2
theorem o222_20 (hB : BytesOK) : okL 222 38 T222_20 = true := (okL_c (o222_19 hB)).2.2
theorem o222_21 (hB : BytesOK) : okL 222 39 T222_21 = true := (okL_c (o222_20 hB)).2.2
theorem o222_22 (hB : BytesOK) : okL 222 42 T222_22 = true := (okL_c (o222_21 hB)).2.2
theorem ml222 : mml 222 = 1 := by decide +kernel
theorem mr222 : mret 222 = some .int := by decide +kernel
theorem mg222 : kGood 222 = true := by decide +kernel

def T223_18 : List Tok := []
def T223_17 : List Tok := (.ireturn, 1, 0, 0) :: T223_18
def T223_16 : List Tok := (.iload_n 1, 1, 0, 0) :: T223_17
def T223_15 : List Tok := (.iastore, 1, 0, 0) :: T223_16
def T223_14 : List Tok := (.invokevirtual 174, 3, 217, 1632) :: T223_15
def T223_13 : List Tok := (.sipush 999, 3, 0, 0) :: T223_14
def T223_12 : List Tok := (.iconst 0, 1, 0, 0) :: T223_13
def T223_11 : List Tok := (.aload_n 0, 1, 0, 0) :: T223_12
def T223_10 : List Tok := (.iload_n 1, 1, 0, 0) :: T223_11
def T223_9 : List Tok := (.getfield 34, 3, 731, 1372) :: T223_10
def T223_8 : List Tok := (.aload_n 0, 1, 0, 0) :: T223_9
def T223_7 : List Tok := (.invokevirtual 186, 3, 216, 1620) :: T223_8
def T223_6 : List Tok := (.bipush 8, 2, 0, 0) :: T223_7
def T223_5 : List Tok := (.aload_n 0, 1, 0, 0) :: T223_6
def T223_4 : List Tok := (.istore_n 1, 1, 0, 0) :: T223_5
def T223_3 : List Tok := (.invokevirtual 174, 3, 217, 1632) :: T223_4
def T223_2 : List Tok := (.iconst 3, 1, 0, 0) :: T223_3
def T223_1 : List Tok := (.iconst 0, 1, 0, 0) :: T223_2
def T223_0 : List Tok := (.aload_n 0, 1, 0, 0) :: T223_1
theorem o223_0 (hB : BytesOK) : okL 223 0 T223_0 = true := by
  have h := hB.1 223
  rw [show tk 223 = T223_0 from by decide +kernel] at h
  exact h
theorem o223_1 (hB : BytesOK) : okL 223 1 T223_1 = true := (okL_c (o223_0 hB)).2.2
theorem o223_2 (hB : BytesOK) : okL 223 2 T223_2 = true := (okL_c (o223_1 hB)).2.2
theorem o223_3 (hB : BytesOK) : okL 223 3 T223_3 = true := (okL_c (o223_2 hB)).2.2
theorem o223_4 (hB : BytesOK) : okL 223 6 T223_4 = true := (okL_c (o223_3 hB)).2.2
theorem o223_5 (hB : BytesOK) : okL 223 7 T223_5 = true := (okL_c (o223_4 hB)).2.2
theorem o223_6 (hB : BytesOK) : okL 223 8 T223_6 = true := (okL_c (o223_5 hB)).2.2
theorem o223_7 (hB : BytesOK) : okL 223 10 T223_7 = true := (okL_c (o223_6 hB)).2.2
theorem o223_8 (hB : BytesOK) : okL 223 13 T223_8 = true := (okL_c (o223_7 hB)).2.2
theorem o223_9 (hB : BytesOK) : okL 223 14 T223_9 = true := (okL_c (o223_8 hB)).2.2
theorem o223_10 (hB : BytesOK) : okL 223 17 T223_10 = true := (okL_c (o223_9 hB)).2.2
theorem o223_11 (hB : BytesOK) : okL 223 18 T223_11 = true := (okL_c (o223_10 hB)).2.2
theorem o223_12 (hB : BytesOK) : okL 223 19 T223_12 = true := (okL_c (o223_11 hB)).2.2
theorem o223_13 (hB : BytesOK) : okL 223 20 T223_13 = true := (okL_c (o223_12 hB)).2.2
theorem o223_14 (hB : BytesOK) : okL 223 23 T223_14 = true := (okL_c (o223_13 hB)).2.2
theorem o223_15 (hB : BytesOK) : okL 223 26 T223_15 = true := (okL_c (o223_14 hB)).2.2
theorem o223_16 (hB : BytesOK) : okL 223 27 T223_16 = true := (okL_c (o223_15 hB)).2.2
theorem o223_17 (hB : BytesOK) : okL 223 28 T223_17 = true := (okL_c (o223_16 hB)).2.2
theorem ml223 : mml 223 = 2 := by decide +kernel
theorem mr223 : mret 223 = some .int := by decide +kernel
theorem mg223 : kGood 223 = true := by decide +kernel

def T224_105 : List Tok := []
def T224_104 : List Tok := (.return_, 1, 0, 0) :: T224_105
def T224_103 : List Tok := (.putfield 211, 3, 725, 1366) :: T224_104
def T224_102 : List Tok := (.iadd, 1, 0, 0) :: T224_103
def T224_101 : List Tok := (.iconst 1, 1, 0, 0) :: T224_102
def T224_100 : List Tok := (.getfield 211, 3, 725, 1366) :: T224_101
def T224_99 : List Tok := (.dup, 1, 0, 0) :: T224_100
def T224_98 : List Tok := (.aload_n 0, 1, 0, 0) :: T224_99
def T224_97 : List Tok := (.iastore, 1, 0, 0) :: T224_98
def T224_96 : List Tok := (.iload_n 2, 1, 0, 0) :: T224_97
def T224_95 : List Tok := (.getfield 211, 3, 725, 1366) :: T224_96
def T224_94 : List Tok := (.aload_n 0, 1, 0, 0) :: T224_95
def T224_93 : List Tok := (.getfield 25, 3, 724, 1365) :: T224_94
def T224_92 : List Tok := (.aload_n 0, 1, 0, 0) :: T224_93
def T224_91 : List Tok := (.iastore, 1, 0, 0) :: T224_92
def T224_90 : List Tok := (.iload_n 1, 1, 0, 0) :: T224_91
def T224_89 : List Tok := (.getfield 211, 3, 725, 1366) :: T224_90
def T224_88 : List Tok := (.aload_n 0, 1, 0, 0) :: T224_89
def T224_87 : List Tok := (.getfield 22, 3, 723, 1364) :: T224_88
def T224_86 : List Tok := (.aload_n 0, 1, 0, 0) :: T224_87
def T224_85 : List Tok := (.invokevirtual 145, 3, 212, 1596) :: T224_86
def T224_84 : List Tok := (.aload_n 0, 1, 0, 0) :: T224_85
def T224_83 : List Tok := (.ifCond .ge 7, 3, 0, 0) :: T224_84
def T224_82 : List Tok := (.getfield 139, 3, 716, 1357) :: T224_83
def T224_81 : List Tok := (.aload_n 0, 1, 0, 0) :: T224_82
def T224_80 : List Tok := (.invokevirtual 148, 3, 214, 1624) :: T224_81
def T224_79 : List Tok := (.aload_n 0, 1, 0, 0) :: T224_80
def T224_78 : List Tok := (.if_icmp .eq 7, 3, 0, 0) :: T224_79
def T224_77 : List Tok := (.bipush 59, 2, 0, 0) :: T224_78
def T224_76 : List Tok := (.getfield 130, 3, 714, 1355) :: T224_77
def T224_75 : List Tok := (.aload_n 0, 1, 0, 0) :: T224_76
def T224_74 : List Tok := (.ifCond .ge 16, 3, 0, 0) :: T224_75
def T224_73 : List Tok := (.getfield 139, 3, 716, 1357) :: T224_74
def T224_72 : List Tok := (.aload_n 0, 1, 0, 0) :: T224_73
def T224_71 : List Tok := (.putfield 208, 3, 733, 1374) :: T224_72
def T224_70 : List Tok := (.ior, 1, 0, 0) :: T224_71
def T224_69 : List Tok := (.iconst 0, 1, 0, 0) :: T224_70
def T224_68 : List Tok := (.goto 4, 3, 0, 0) :: T224_69
def T224_67 : List Tok := (.iconst 1, 1, 0, 0) :: T224_68
def T224_66 : List Tok := (.ifCond .eq 7, 3, 0, 0) :: T224_67
def T224_65 : List Tok := (.iload_n 3, 1, 0, 0) :: T224_66
def T224_64 : List Tok := (.ifCond .ge 11, 3, 0, 0) :: T224_65
def T224_63 : List Tok := (.getfield 139, 3, 716, 1357) :: T224_64
def T224_62 : List Tok := (.aload_n 0, 1, 0, 0) :: T224_63
def T224_61 : List Tok := (.getfield 208, 3, 733, 1374) :: T224_62
def T224_60 : List Tok := (.dup, 1, 0, 0) :: T224_61
def T224_59 : List Tok := (.aload_n 0, 1, 0, 0) :: T224_60
def T224_58 : List Tok := (.istore_n 3, 1, 0, 0) :: T224_59
def T224_57 : List Tok := (.invokevirtual 154, 3, 220, 1640) :: T224_58
def T224_56 : List Tok := (.aload_n 0, 1, 0, 0) :: T224_57
def T224_55 : List Tok := (.invokevirtual 186, 3, 216, 1620) :: T224_56
def T224_54 : List Tok := (.bipush 9, 2, 0, 0) :: T224_55
def T224_53 : List Tok := (.aload_n 0, 1, 0, 0) :: T224_54
def T224_52 : List Tok := (.goto 39, 3, 0, 0) :: T224_53
def T224_51 : List Tok := (.istore_n 2, 1, 0, 0) :: T224_52
def T224_50 : List Tok := (.getfield 205, 3, 732, 1373) :: T224_51
def T224_49 : List Tok := (.aload_n 0, 1, 0, 0) :: T224_50
def T224_48 : List Tok := (.putfield 205, 3, 732, 1373) :: T224_49
def T224_47 : List Tok := (.invokevirtual 174, 3, 217, 1632) :: T224_48
def T224_46 : List Tok := (.sipush 999, 3, 0, 0) :: T224_47
def T224_45 : List Tok := (.iconst 0, 1, 0, 0) :: T224_46
def T224_44 : List Tok := (.aload_n 0, 1, 0, 0) :: T224_45
def T224_43 : List Tok := (.aload_n 0, 1, 0, 0) :: T224_44
def T224_42 : List Tok := (.if_icmp .ne 23, 3, 0, 0) :: T224_43
def T224_41 : List Tok := (.iconst 4, 1, 0, 0) :: T224_42
def T224_40 : List Tok := (.iload_n 1, 1, 0, 0) :: T224_41
def T224_39 : List Tok := (.goto 64, 3, 0, 0) :: T224_40
def T224_38 : List Tok := (.istore_n 2, 1, 0, 0) :: T224_39
def T224_37 : List Tok := (.invokevirtual 202, 3, 223, 1636) :: T224_38
def T224_36 : List Tok := (.aload_n 0, 1, 0, 0) :: T224_37
def T224_35 : List Tok := (.if_icmp .ne 11, 3, 0, 0) :: T224_36
def T224_34 : List Tok := (.iconst 3, 1, 0, 0) :: T224_35
def T224_33 : List Tok := (.iload_n 1, 1, 0, 0) :: T224_34
def T224_32 : List Tok := (.goto 77, 3, 0, 0) :: T224_33
def T224_31 : List Tok := (.istore_n 2, 1, 0, 0) :: T224_32
def T224_30 : List Tok := (.getfield 199, 3, 730, 1371) :: T224_31
def T224_29 : List Tok := (.aload_n 0, 1, 0, 0) :: T224_30
def T224_28 : List Tok := (.putfield 199, 3, 730, 1371) :: T224_29
def T224_27 : List Tok := (.invokevirtual 174, 3, 217, 1632) :: T224_28
def T224_26 : List Tok := (.sipush 999, 3, 0, 0) :: T224_27
def T224_25 : List Tok := (.iconst 0, 1, 0, 0) :: T224_26
def T224_24 : List Tok := (.aload_n 0, 1, 0, 0) :: T224_25
def T224_23 : List Tok := (.aload_n 0, 1, 0, 0) :: T224_24
def T224_22 : List Tok := (.if_icmp .ne 23, 3, 0, 0) :: T224_23
def T224_21 : List Tok := (.iconst 2, 1, 0, 0) :: T224_22
def T224_20 : List Tok := (.iload_n 1, 1, 0, 0) :: T224_21
def T224_19 : List Tok := (.goto 102, 3, 0, 0) :: T224_20
def T224_18 : List Tok := (.istore_n 2, 1, 0, 0) :: T224_19
def T224_17 : List Tok := (.invokevirtual 196, 3, 221, 1628) :: T224_18
def T224_16 : List Tok := (.aload_n 0, 1, 0, 0) :: T224_17
def T224_15 : List Tok := (.if_icmp .ne 11, 3, 0, 0) :: T224_16
def T224_14 : List Tok := (.iconst 1, 1, 0, 0) :: T224_15
def T224_13 : List Tok := (.iload_n 1, 1, 0, 0) :: T224_14
def T224_12 : List Tok := (.goto 115, 3, 0, 0) :: T224_13
def T224_11 : List Tok := (.istore_n 2, 1, 0, 0) :: T224_12
def T224_10 : List Tok := (.invokevirtual 193, 3, 222, 1616) :: T224_11
def T224_9 : List Tok := (.aload_n 0, 1, 0, 0) :: T224_10
def T224_8 : List Tok := (.ifCond .ne 11, 3, 0, 0) :: T224_9
def T224_7 : List Tok := (.iload_n 1, 1, 0, 0) :: T224_8
def T224_6 : List Tok := (.istore_n 2, 1, 0, 0) :: T224_7
def T224_5 : List Tok := (.bipush (-9), 2, 0, 0) :: T224_6
def T224_4 : List Tok := (.invokevirtual 145, 3, 212, 1596) :: T224_5
def T224_3 : List Tok := (.aload_n 0, 1, 0, 0) :: T224_4
def T224_2 : List Tok := (.istore_n 1, 1, 0, 0) :: T224_3
def T224_1 : List Tok := (.getfield 133, 3, 715, 1356) :: T224_2
def T224_0 : List Tok := (.aload_n 0, 1, 0, 0) :: T224_1
theorem o224_0 (hB : BytesOK) : okL 224 0 T224_0 = true := by
  have h := hB.1 224
  rw [show tk 224 = T224_0 from by decide +kernel] at h
  exact h
theorem o224_1 (hB : BytesOK) : okL 224 1 T224_1 = true := (okL_c (o224_0 hB)).2.2
theorem o224_2 (hB : BytesOK) : okL 224 4 T224_2 = true := (okL_c (o224_1 hB)).2.2
theorem o224_3 (hB : BytesOK) : okL 224 5 T224_3 = true := (okL_c (o224_2 hB)).2.2
theorem o224_4 (hB : BytesOK) : okL 224 6 T224_4 = true := (okL_c (o224_3 hB)).2.2
theorem o224_5 (hB : BytesOK) : okL 224 9 T224_5 = true := (okL_c (o224_4 hB)).2.2
theorem o224_6 (hB : BytesOK) : okL 224 11 T224_6 = true := (okL_c (o224_5 hB)).2.2
theorem o224_7 (hB : BytesOK) : okL 224 12 T224_7 = true := (okL_c (o224_6 hB)).2.2
theorem o224_8 (hB : BytesOK) : okL 224 13 T224_8 = true := (okL_c (o224_7 hB)).2.2
theorem o224_9 (hB : BytesOK) : okL 224 16 T224_9 = true := (okL_c (o224_8 hB)).2.2
theorem o224_10 (hB : BytesOK) : okL 224 17 T224_10 = true := (okL_c (o224_9 hB)).2.2
theorem o224_11 (hB : BytesOK) : okL 224 20 T224_11 = true := (okL_c (o224_10 hB)).2.2
theorem o224_12 (hB : BytesOK) : okL 224 21 T224_12 = true := (okL_c (o224_11 hB)).2.2
theorem o224_13 (hB : BytesOK) : okL 224 24 T224_13 = true := (okL_c (o224_12 hB)).2.2
theorem o224_14 (hB : BytesOK) : okL 224 25 T224_14 = true := (okL_c (o224_13 hB)).2.2
theorem o224_15 (hB : BytesOK) : okL 224 26 T224_15 = true := (okL_c (o224_14 hB)).2.2
theorem o224_16 (hB : BytesOK) : okL 224 29 T224_16 = true := (okL_c (o224_15 hB)).2.2
theorem o224_17 (hB : BytesOK) : okL 224 30 T224_17 = true := (okL_c (o224_16 hB)).2.2
theorem o224_18 (hB : BytesOK) : okL 224 33 T224_18 = true := (okL_c (o224_17 hB)).2.2
theorem o224_19 (hB : BytesOK) : okL 224 34 T224_19 = true := (okL_c (o224_18 hB)).2.2
theorem o224_20 (hB : BytesOK) : okL 224 37 T224_20 = true := (okL_c (o224_19 hB)).2.2
theorem o224_21 (hB : BytesOK) : okL 224 38 T224_21 = true := (okL_c (o224_20 hB)).2.2
theorem o224_22 (hB : BytesOK) : okL 224 39 T224_22 = true := (okL_c (o224_21 hB)).2.2
theorem o224_23 (hB : BytesOK) : okL 224 42 T224_23 = true := (okL_c (o224_22 hB)).2.2
theorem o224_24 (hB : BytesOK) : okL 224 43 T224_24 = true := (okL_c (o224_23 hB)).2.2
theorem o224_25 (hB : BytesOK) : okL 224 44 T224_25 = true := (okL_c (o224_24 hB)).2.2
theorem o224_26 (hB : BytesOK) : okL 224 45 T224_26 = true := (okL_c (o224_25 hB)).2.2
theorem o224_27 (hB : BytesOK) : okL 224 48 T224_27 = true := (okL_c (o224_26 hB)).2.2
theorem o224_28 (hB : BytesOK) : okL 224 51 T224_28 = true := (okL_c (o224_27 hB)).2.2
theorem o224_29 (hB : BytesOK) : okL 224 54 T224_29 = true := (okL_c (o224_28 hB)).2.2
theorem o224_30 (hB : BytesOK) : okL 224 55 T224_30 = true := (okL_c (o224_29 hB)).2.2
theorem o224_31 (hB : BytesOK) : okL 224 58 T224_31 = true := (okL_c (o224_30 hB)).2.2
theorem o224_32 (hB : BytesOK) : okL 224 59 T224_32 = true := (okL_c (o224_31 hB)).2.2
theorem o224_33 (hB : BytesOK) : okL 224 62 T224_33 = true := (okL_c (o224_32 hB)).2.2
theorem o224_34 (hB : BytesOK) : okL 224 63 T224_34 = true := (okL_c (o224_33 hB)).2.2
theorem o224_35 (hB : BytesOK) : okL 224 64 T224_35 = true := (okL_c (o224_34 hB)).2.2
theorem o224_36 (hB : BytesOK) : okL 224 67 T224_36 = true := (okL_c (o224_35 hB)).2.2
theorem o224_37 (hB : BytesOK) : okL 224 68 T224_37 = true := (okL_c (o224_36 hB)).2.2
theorem o224_38 (hB : BytesOK) : okL 224 71 T224_38 = true := (okL_c (o224_37 hB)).2.2
theorem o224_39 (hB : BytesOK) : okL 224 72 T224_39 = true := (okL_c (o224_38 hB)).2.2
theorem o224_40 (hB : BytesOK) : okL 224 75 T224_40 = true := (okL_c (o224_39 hB)).2.2
theorem o224_41 (hB : BytesOK) : okL 224 76 T224_41 = true := (okL_c (o224_40 hB)).2.2
theorem o224_42 (hB : BytesOK) : okL 224 77 T224_42 = true := (okL_c (o224_41 hB)).2.2
theorem o224_43 (hB : BytesOK) : okL 224 80 T224_43 = true := (okL_c (o224_42 hB)).2.2
theorem o224_44 (hB : BytesOK) : okL 224 81 T224_44 = true := (okL_c (o224_43 hB)).2.2
theorem o224_45 (hB : BytesOK) : okL 224 82 T224_45 = true := (okL_c (o224_44 hB)).2.2
theorem o224_46 (hB : BytesOK) : okL 224 83 T224_46 = true := (okL_c (o224_45 hB)).2.2
theorem o224_47 (hB : BytesOK) : okL 224 86 T224_47 = true := (okL_c (o224_46 hB)).2.2
theorem o224_48 (hB : BytesOK) : okL 224 89 T224_48 = true := (okL_c (o224_47 hB)).2.2
theorem o224_49 (hB : BytesOK) : okL 224 92 T224_49 = true := (okL_c (o224_48 hB)).2.2
theorem o224_50 (hB : BytesOK) : okL 224 93 T224_50 = true := (okL_c (o224_49 hB)).2.2
theorem o224_51 (hB : BytesOK) : okL 224 96 T224_51 = true := (okL_c (o224_50 hB)).2.2
theorem o224_52 (hB : BytesOK) : okL 224 97 T224_52 = true := (okL_c (o224_51 hB)).2.2
theorem o224_53 (hB : BytesOK) : okL 224 100 T224_53 = true := (okL_c (o224_52 hB)).2.2
theorem o224_54 (hB : BytesOK) : okL 224 101 T224_54 = true := (okL_c (o224_53 hB)).2.2
theorem o224_55 (hB : BytesOK) : okL 224 103 T224_55 = true := (okL_c (o224_54 hB)).2.2
theorem o224_56 (hB : BytesOK) : okL 224 106 T224_56 = true := (okL_c (o224_55 hB)).2.2
theorem o224_57 (hB : BytesOK) : okL 224 107 T224_57 = true := (okL_c (o224_56 hB)).2.2
theorem o224_58 (hB : BytesOK) : okL 224 110 T224_58 = true := (okL_c (o224_57 hB)).2.2
theorem o224_59 (hB : BytesOK) : okL 224 111 T224_59 = true := (okL_c (o224_58 hB)).2.2
theorem o224_60 (hB : BytesOK) : okL 224 112 T224_60 = true := (okL_c (o224_59 hB)).2.2
theorem o224_61 (hB : BytesOK) : okL 224 113 T224_61 = true := (okL_c (o224_60 hB)).2.2
theorem o224_62 (hB : BytesOK) : okL 224 116 T224_62 = true := (okL_c (o224_61 hB)).2.2
theorem o224_63 (hB : BytesOK) : okL 224 117 T224_63 = true := (okL_c (o224_62 hB)).2.2
theorem o224_64 (hB : BytesOK) : okL 224 120 T224_64 = true := (okL_c (o224_63 hB)).2.2
theorem o224_65 (hB : BytesOK) : okL 224 123 T224_65 = true := (okL_c (o224_64 hB)).2.2
theorem o224_66 (hB : BytesOK) : okL 224 124 T224_66 = true := (okL_c (o224_65 hB)).2.2
theorem o224_67 (hB : BytesOK) : okL 224 127 T224_67 = true := (okL_c (o224_66 hB)).2.2
theorem o224_68 (hB : BytesOK) : okL 224 128 T224_68 = true := (okL_c (o224_67 hB)).2.2
theorem o224_69 (hB : BytesOK) : okL 224 131 T224_69 = true := (okL_c (o224_68 hB)).2.2
theorem o224_70 (hB : BytesOK) : okL 224 132 T224_70 = true := (okL_c (o224_69 hB)).2.2
theorem o224_71 (hB : BytesOK) : okL 224 133 T224_71 = true := (okL_c (o224_70 hB)).2.2
theorem o224_72 (hB : BytesOK) : okL 224 136 T224_72 = true := (okL_c (o224_71 hB)).2.2
theorem o224_73 (hB : BytesOK) : okL 224 137 T224_73 = true := (okL_c (o224_72 hB)).2.2
theorem o224_74 (hB : BytesOK) : okL 224 140 T224_74 = true := (okL_c (o224_73 hB)).2.2
theorem o224_75 (hB : BytesOK) : okL 224 143 T224_75 = true := (okL_c (o224_74 hB)).2.2
theorem o224_76 (hB : BytesOK) : okL 224 144 T224_76 = true := (okL_c (o224_75 hB)).2.2
theorem o224_77 (hB : BytesOK) : okL 224 147 T224_77 = true := (okL_c (o224_76 hB)).2.2
theorem o224_78 (hB : BytesOK) : okL 224 149 T224_78 = true := (okL_c (o224_77 hB)).2.2
theorem o224_79 (hB : BytesOK) : okL 224 152 T224_79 = true := (okL_c (o224_78 hB)).2.2
theorem o224_80 (hB : BytesOK) : okL 224 153 T224_80 = true := (okL_c (o224_79 hB)).2.2
theorem o224_81 (hB : BytesOK) : okL 224 156 T224_81 = true := (okL_c (o224_80 hB)).2.2
theorem o224_82 (hB : BytesOK) : okL 224 157 T224_82 = true := (okL_c (o224_81 hB)).2.2
theorem o224_83 (hB : BytesOK) : okL 224 160 T224_83 = true := (okL_c (o224_82 hB)).2.2
theorem o224_84 (hB : BytesOK) : okL 224 163 T224_84 = true := (okL_c (o224_83 hB)).2.2
theorem o224_85 (hB : BytesOK) : okL 224 164 T224_85 = true := (okL_c (o224_84 hB)).2.2
theorem o224_86 (hB : BytesOK) : okL 224 167 T224_86 = true := (okL_c (o224_85 hB)).2.2
theorem o224_87 (hB : BytesOK) : okL 224 168 T224_87 = true := (okL_c (o224_86 hB)).2.2
theorem o224_88 (hB : BytesOK) : okL 224 171 T224_88 = true := (okL_c (o224_87 hB)).2.2
theorem o224_89 (hB : BytesOK) : okL 224 172 T224_89 = true := (okL_c (o224_88 hB)).2.2
theorem o224_90 (hB : BytesOK) : okL 224 175 T224_90 = true := (okL_c (o224_89 hB)).2.2
theorem o224_91 (hB : BytesOK) : okL 224 176 T224_91 = true := (okL_c (o224_90 hB)).2.2
theorem o224_92 (hB : BytesOK) : okL 224 177 T224_92 = true := (okL_c (o224_91 hB)).2.2
theorem o224_93 (hB : BytesOK) : okL 224 178 T224_93 = true := (okL_c (o224_92 hB)).2.2
theorem o224_94 (hB : BytesOK) : okL 224 181 T224_94 = true := (okL_c (o224_93 hB)).2.2
theorem o224_95 (hB : BytesOK) : okL 224 182 T224_95 = true := (okL_c (o224_94 hB)).2.2
theorem o224_96 (hB : BytesOK) : okL 224 185 T224_96 = true := (okL_c (o224_95 hB)).2.2
theorem o224_97 (hB : BytesOK) : okL 224 186 T224_97 = true := (okL_c (o224_96 hB)).2.2
theorem o224_98 (hB : BytesOK) : okL 224 187 T224_98 = true := (okL_c (o224_97 hB)).2.2
theorem o224_99 (hB : BytesOK) : okL 224 188 T224_99 = true := (okL_c (o224_98 hB)).2.2
theorem o224_100 (hB : BytesOK) : okL 224 189 T224_100 = true := (okL_c (o224_99 hB)).2.2
theorem o224_101 (hB : BytesOK) : okL 224 192 T224_101 = true := (okL_c (o224_100 hB)).2.2
theorem o224_102 (hB : BytesOK) : okL 224 193 T224_102 = true := (okL_c (o224_101 hB)).2.2
theorem o224_103 (hB : BytesOK) : okL 224 194 T224_103 = true := (okL_c (o224_102 hB)).2.2
theorem o224_104 (hB : BytesOK) : okL 224 197 T224_104 = true := (okL_c (o224_103 hB)).2.2
theorem ml224 : mml 224 = 4 := by decide +kernel
theorem mr224 : mret 224 = none := by decide +kernel
theorem mg224 : kGood 224 = true := by decide +kernel

def T225_74 : List Tok := []
def T225_73 : List Tok := (.return_, 1, 0, 0) :: T225_74
def T225_72 : List Tok := (.goto (-43), 3, 0, 0) :: T225_73
def T225_71 : List Tok := (.invokevirtual 148, 3, 214, 1624) :: T225_72
def T225_70 : List Tok := (.aload_n 0, 1, 0, 0) :: T225_71
def T225_69 : List Tok := (.goto (-36), 3, 0, 0) :: T225_70
def T225_68 : List Tok := (.invokevirtual 214, 3, 224, 1612) :: T225_69
def T225_67 : List Tok := (.aload_n 0, 1, 0, 0) :: T225_68
def T225_66 : List Tok := (.if_icmp .ge 10, 3, 0, 0) :: T225_67
def T225_65 : List Tok := (.bipush 9, 2, 0, 0) :: T225_66
def T225_64 : List Tok := (.getfield 211, 3, 725, 1366) :: T225_65
def T225_63 : List Tok := (.aload_n 0, 1, 0, 0) :: T225_64
def T225_62 : List Tok := (.ifCond .eq 19, 3, 0, 0) :: T225_63
def T225_61 : List Tok := (.invokevirtual 142, 3, 215, 1608) :: T225_62
def T225_60 : List Tok := (.iconst 5, 1, 0, 0) :: T225_61
def T225_59 : List Tok := (.iconst 0, 1, 0, 0) :: T225_60
def T225_58 : List Tok := (.aload_n 0, 1, 0, 0) :: T225_59
def T225_57 : List Tok := (.ifCond .eq 35, 3, 0, 0) :: T225_58
def T225_56 : List Tok := (.getfield 130, 3, 714, 1355) :: T225_57
def T225_55 : List Tok := (.aload_n 0, 1, 0, 0) :: T225_56
def T225_54 : List Tok := (.ifCond .ge 42, 3, 0, 0) :: T225_55
def T225_53 : List Tok := (.getfield 139, 3, 716, 1357) :: T225_54
def T225_52 : List Tok := (.aload_n 0, 1, 0, 0) :: T225_53
def T225_51 : List Tok := (.invokevirtual 145, 3, 212, 1596) :: T225_52
def T225_50 : List Tok := (.aload_n 0, 1, 0, 0) :: T225_51
def T225_49 : List Tok := (.goto (-16), 3, 0, 0) :: T225_50
def T225_48 : List Tok := (.iinc 3 1, 3, 0, 0) :: T225_49
def T225_47 : List Tok := (.iastore, 1, 0, 0) :: T225_48
def T225_46 : List Tok := (.bipush 100, 2, 0, 0) :: T225_47
def T225_45 : List Tok := (.iload_n 3, 1, 0, 0) :: T225_46
def T225_44 : List Tok := (.getfield 34, 3, 731, 1372) :: T225_45
def T225_43 : List Tok := (.aload_n 0, 1, 0, 0) :: T225_44
def T225_42 : List Tok := (.if_icmp .ge 17, 3, 0, 0) :: T225_43
def T225_41 : List Tok := (.iconst 4, 1, 0, 0) :: T225_42
def T225_40 : List Tok := (.iload_n 3, 1, 0, 0) :: T225_41
def T225_39 : List Tok := (.istore_n 3, 1, 0, 0) :: T225_40
def T225_38 : List Tok := (.iconst 0, 1, 0, 0) :: T225_39
def T225_37 : List Tok := (.putfield 208, 3, 733, 1374) :: T225_38
def T225_36 : List Tok := (.iconst 0, 1, 0, 0) :: T225_37
def T225_35 : List Tok := (.aload_n 0, 1, 0, 0) :: T225_36
def T225_34 : List Tok := (.putfield 205, 3, 732, 1373) :: T225_35
def T225_33 : List Tok := (.iconst 0, 1, 0, 0) :: T225_34
def T225_32 : List Tok := (.aload_n 0, 1, 0, 0) :: T225_33
def T225_31 : List Tok := (.putfield 199, 3, 730, 1371) :: T225_32
def T225_30 : List Tok := (.iconst (-1), 1, 0, 0) :: T225_31
def T225_29 : List Tok := (.aload_n 0, 1, 0, 0) :: T225_30
def T225_28 : List Tok := (.putfield 183, 3, 729, 1370) :: T225_29
def T225_27 : List Tok := (.iconst 0, 1, 0, 0) :: T225_28
def T225_26 : List Tok := (.aload_n 0, 1, 0, 0) :: T225_27
def T225_25 : List Tok := (.iastore, 1, 0, 0) :: T225_26
def T225_24 : List Tok := (.iconst 0, 1, 0, 0) :: T225_25
def T225_23 : List Tok := (.iconst 0, 1, 0, 0) :: T225_24
def T225_22 : List Tok := (.getfield 31, 3, 728, 1369) :: T225_23
def T225_21 : List Tok := (.aload_n 0, 1, 0, 0) :: T225_22
def T225_20 : List Tok := (.putfield 190, 3, 726, 1367) :: T225_21
def T225_19 : List Tok := (.iconst 0, 1, 0, 0) :: T225_20
def T225_18 : List Tok := (.aload_n 0, 1, 0, 0) :: T225_19
def T225_17 : List Tok := (.putfield 211, 3, 725, 1366) :: T225_18
def T225_16 : List Tok := (.iconst 0, 1, 0, 0) :: T225_17
def T225_15 : List Tok := (.aload_n 0, 1, 0, 0) :: T225_16
def T225_14 : List Tok := (.putfield 151, 3, 717, 1358) :: T225_15
def T225_13 : List Tok := (.iconst 0, 1, 0, 0) :: T225_14
def T225_12 : List Tok := (.aload_n 0, 1, 0, 0) :: T225_13
def T225_11 : List Tok := (.putfield 139, 3, 716, 1357) :: T225_12
def T225_10 : List Tok := (.iconst (-1), 1, 0, 0) :: T225_11
def T225_9 : List Tok := (.aload_n 0, 1, 0, 0) :: T225_10
def T225_8 : List Tok := (.putfield 121, 3, 712, 1353) :: T225_9
def T225_7 : List Tok := (.iconst 0, 1, 0, 0) :: T225_8
def T225_6 : List Tok := (.aload_n 0, 1, 0, 0) :: T225_7
def T225_5 : List Tok := (.putfield 115, 3, 711, 1352) :: T225_6
def T225_4 : List Tok := (.iload_n 2, 1, 0, 0) :: T225_5
def T225_3 : List Tok := (.aload_n 0, 1, 0, 0) :: T225_4
def T225_2 : List Tok := (.putfield 118, 3, 710, 1351) :: T225_3
def T225_1 : List Tok := (.iload_n 1, 1, 0, 0) :: T225_2
def T225_0 : List Tok := (.aload_n 0, 1, 0, 0) :: T225_1
theorem o225_0 (hB : BytesOK) : okL 225 0 T225_0 = true := by
  have h := hB.1 225
  rw [show tk 225 = T225_0 from by decide +kernel] at h
  exact h
theorem o225_1 (hB : BytesOK) : okL 225 1 T225_1 = true := (okL_c (o225_0 hB)).2.2
theorem o225_2 (hB : BytesOK) : okL 225 2 T225_2 = true := (okL_c (o225_1 hB)).2.2
theorem o225_3 (hB : BytesOK) : okL 225 5 T225_3 = true := (okL_c (o225_2 hB)).2.2
theorem o225_4 (hB : BytesOK) : okL 225 6 T225_4 = true := (okL_c (o225_3 hB)).2.2
theorem o225_5 (hB : BytesOK) : okL 225 7 T225_5 = true := (okL_c (o225_4 hB)).2.2
theorem o225_6 (hB : BytesOK) : okL 225 10 T225_6 = true := (okL_c (o225_5 hB)).2.2
theorem o225_7 (hB : BytesOK) : okL 225 11 T225_7 = true := (okL_c (o225_6 hB)).2.2
theorem o225_8 (hB : BytesOK) : okL 225 12 T225_8 = true := (okL_c (o225_7 hB)).2.2
theorem o225_9 (hB : BytesOK) : okL 225 15 T225_9 = true := (okL_c (o225_8 hB)).2.2
theorem o225_10 (hB : BytesOK) : okL 225 16 T225_10 = true := (okL_c (o225_9 hB)).2.2
theorem o225_11 (hB : BytesOK) : okL 225 17 T225_11 = true := (okL_c (o225_10 hB)).2.2
theorem o225_12 (hB : BytesOK) : okL 225 20 T225_12 = true := (okL_c (o225_11 hB)).2.2
theorem o225_13 (hB : BytesOK) : okL 225 21 T225_13 = true := (okL_c (o225_12 hB)).2.2
theorem o225_14 (hB : BytesOK) : okL 225 22 T225_14 = true := (okL_c (o225_13 hB)).2.2
theorem o225_15 (hB : BytesOK) : okL 225 25 T225_15 = true := (okL_c (o225_14 hB)).2.2
theorem o225_16 (hB : BytesOK) : okL 225 26 T225_16 = true := (okL_c (o225_15 hB)).2.2
theorem o225_17 (hB : BytesOK) : okL 225 27 T225_17 = true := (okL_c (o225_16 hB)).2.2
theorem o225_18 (hB : BytesOK) : okL 225 30 T225_18 = true := (okL_c (o225_17 hB)).2.2
theorem o225_19 (hB : BytesOK) : okL 225 31 T225_19 = true := (okL_c (o225_18 hB)).2.2
theorem o225_20 (hB : BytesOK) : okL 225 32 T225_20 = true := (okL_c (o225_19 hB)).2.2
theorem o225_21 (hB : BytesOK) : okL 225 35 T225_21 = true := (okL_c (o225_20 hB)).2.2
theorem o225_22 (hB : BytesOK) : okL 225 36 T225_22 = true := (okL_c (o225_21 hB)).2.2
theorem o225_23 (hB : BytesOK) : okL 225 39 T225_23 = true := (okL_c (o225_22 hB)).2.2
theorem o225_24 (hB : BytesOK) : okL 225 40 T225_24 = true := (okL_c (o225_23 hB)).2.2
theorem o225_25 (hB : BytesOK) : okL 225 41 T225_25 = true := (okL_c (o225_24 hB)).2.2
theorem o225_26 (hB : BytesOK) : okL 225 42 T225_26 = true := (okL_c (o225_25 hB)).2.2
theorem o225_27 (hB : BytesOK) : okL 225 43 T225_27 = true := (okL_c (o225_26 hB)).2.2
theorem o225_28 (hB : BytesOK) : okL 225 44 T225_28 = true := (okL_c (o225_27 hB)).2.2
theorem o225_29 (hB : BytesOK) : okL 225 47 T225_29 = true := (okL_c (o225_28 hB)).2.2
theorem o225_30 (hB : BytesOK) : okL 225 48 T225_30 = true := (okL_c (o225_29 hB)).2.2
theorem o225_31 (hB : BytesOK) : okL 225 49 T225_31 = true := (okL_c (o225_30 hB)).2.2
theorem o225_32 (hB : BytesOK) : okL 225 52 T225_32 = true := (okL_c (o225_31 hB)).2.2
theorem o225_33 (hB : BytesOK) : okL 225 53 T225_33 = true := (okL_c (o225_32 hB)).2.2
theorem o225_34 (hB : BytesOK) : okL 225 54 T225_34 = true := (okL_c (o225_33 hB)).2.2
theorem o225_35 (hB : BytesOK) : okL 225 57 T225_35 = true := (okL_c (o225_34 hB)).2.2
theorem o225_36 (hB : BytesOK) : okL 225 58 T225_36 = true := (okL_c (o225_35 hB)).2.2
theorem o225_37 (hB : BytesOK) : okL 225 59 T225_37 = true := (okL_c (o225_36 hB)).2.2
theorem o225_38 (hB : BytesOK) : okL 225 62 T225_38 = true := (okL_c (o225_37 hB)).2.2
theorem o225_39 (hB : BytesOK) : okL 225 63 T225_39 = true := (okL_c (o225_38 hB)).2.2
theorem o225_40 (hB : BytesOK) : okL 225 64 T225_40 = true := (okL_c (o225_39 hB)).2.2
theorem o225_41 (hB : BytesOK) : okL 225 65 T225_41 = true := (okL_c (o225_40 hB)).2.2
theorem o225_42 (hB : BytesOK) : okL 225 66 T225_42 = true := (okL_c (o225_41 hB)).2.2
theorem o225_43 (hB : BytesOK) : okL 225 69 T225_43 = true := (okL_c (o225_42 hB)).2.2
theorem o225_44 (hB : BytesOK) : okL 225 70 T225_44 = true := (okL_c (o225_43 hB)).2.2
theorem o225_45 (hB : BytesOK) : okL 225 73 T225_45 = true := (okL_c (o225_44 hB)).2.2
theorem o225_46 (hB : BytesOK) : okL 225 74 T225_46 = true := (okL_c (o225_45 hB)).2.2
theorem o225_47 (hB : BytesOK) : okL 225 76 T225_47 = true := (okL_c (o225_46 hB)).2.2
theorem o225_48 (hB : BytesOK) : okL 225 77 T225_48 = true := (okL_c (o225_47 hB)).2.2
theorem o225_49 (hB : BytesOK) : okL 225 80 T225_49 = true := (okL_c (o225_48 hB)).2.2
theorem o225_50 (hB : BytesOK) : okL 225 83 T225_50 = true := (okL_c (o225_49 hB)).2.2
theorem o225_51 (hB : BytesOK) : okL 225 84 T225_51 = true := (okL_c (o225_50 hB)).2.2
theorem o225_52 (hB : BytesOK) : okL 225 87 T225_52 = true := (okL_c (o225_51 hB)).2.2
theorem o225_53 (hB : BytesOK) : okL 225 88 T225_53 = true := (okL_c (o225_52 hB)).2.2
theorem o225_54 (hB : BytesOK) : okL 225 91 T225_54 = true := (okL_c (o225_53 hB)).2.2
theorem o225_55 (hB : BytesOK) : okL 225 94 T225_55 = true := (okL_c (o225_54 hB)).2.2
theorem o225_56 (hB : BytesOK) : okL 225 95 T225_56 = true := (okL_c (o225_55 hB)).2.2
theorem o225_57 (hB : BytesOK) : okL 225 98 T225_57 = true := (okL_c (o225_56 hB)).2.2
theorem o225_58 (hB : BytesOK) : okL 225 101 T225_58 = true := (okL_c (o225_57 hB)).2.2
theorem o225_59 (hB : BytesOK) : okL 225 102 T225_59 = true := (okL_c (o225_58 hB)).2.2
theorem o225_60 (hB : BytesOK) : okL 225 103 T225_60 = true := (okL_c (o225_59 hB)).2.2
theorem o225_61 (hB : BytesOK) : okL 225 104 T225_61 = true := (okL_c (o225_60 hB)).2.2
theorem o225_62 (hB : BytesOK) : okL 225 107 T225_62 = true := (okL_c (o225_61 hB)).2.2
theorem o225_63 (hB : BytesOK) : okL 225 110 T225_63 = true := (okL_c (o225_62 hB)).2.2
theorem o225_64 (hB : BytesOK) : okL 225 111 T225_64 = true := (okL_c (o225_63 hB)).2.2
theorem o225_65 (hB : BytesOK) : okL 225 114 T225_65 = true := (okL_c (o225_64 hB)).2.2
theorem o225_66 (hB : BytesOK) : okL 225 116 T225_66 = true := (okL_c (o225_65 hB)).2.2
theorem o225_67 (hB : BytesOK) : okL 225 119 T225_67 = true := (okL_c (o225_66 hB)).2.2
theorem o225_68 (hB : BytesOK) : okL 225 120 T225_68 = true := (okL_c (o225_67 hB)).2.2
theorem o225_69 (hB : BytesOK) : okL 225 123 T225_69 = true := (okL_c (o225_68 hB)).2.2
theorem o225_70 (hB : BytesOK) : okL 225 126 T225_70 = true := (okL_c (o225_69 hB)).2.2
theorem o225_71 (hB : BytesOK) : okL 225 127 T225_71 = true := (okL_c (o225_70 hB)).2.2
theorem o225_72 (hB : BytesOK) : okL 225 130 T225_72 = true := (okL_c (o225_71 hB)).2.2
theorem o225_73 (hB : BytesOK) : okL 225 133 T225_73 = true := (okL_c (o225_72 hB)).2.2
theorem ml225 : mml 225 = 4 := by decide +kernel
theorem mr225 : mret 225 = none := by decide +kernel
theorem mg225 : kGood 225 = true := by decide +kernel

def T226_79 : List Tok := []
def T226_78 : List Tok := (.ireturn, 1, 0, 0) :: T226_79
def T226_77 : List Tok := (.iload_n 2, 1, 0, 0) :: T226_78
def T226_76 : List Tok := (.iastore, 1, 0, 0) :: T226_77
def T226_75 : List Tok := (.iadd, 1, 0, 0) :: T226_76
def T226_74 : List Tok := (.iconst 1, 1, 0, 0) :: T226_75
def T226_73 : List Tok := (.iaload, 1, 0, 0) :: T226_74
def T226_72 : List Tok := (.dup2, 1, 0, 0) :: T226_73
def T226_71 : List Tok := (.iconst 4, 1, 0, 0) :: T226_72
def T226_70 : List Tok := (.getfield 7, 3, 704, 1345) :: T226_71
def T226_69 : List Tok := (.aload_n 0, 1, 0, 0) :: T226_70
def T226_68 : List Tok := (.goto (-30), 3, 0, 0) :: T226_69
def T226_67 : List Tok := (.iinc 3 1, 3, 0, 0) :: T226_68
def T226_66 : List Tok := (.iastore, 1, 0, 0) :: T226_67
def T226_65 : List Tok := (.iaload, 1, 0, 0) :: T226_66
def T226_64 : List Tok := (.iload_n 3, 1, 0, 0) :: T226_65
def T226_63 : List Tok := (.getfield 16, 3, 707, 1348) :: T226_64
def T226_62 : List Tok := (.aload_n 0, 1, 0, 0) :: T226_63
def T226_61 : List Tok := (.iadd, 1, 0, 0) :: T226_62
def T226_60 : List Tok := (.iload_n 3, 1, 0, 0) :: T226_61
def T226_59 : List Tok := (.iadd, 1, 0, 0) :: T226_60
def T226_58 : List Tok := (.imul, 1, 0, 0) :: T226_59
def T226_57 : List Tok := (.iload_n 2, 1, 0, 0) :: T226_58
def T226_56 : List Tok := (.sipush 220, 3, 0, 0) :: T226_57
def T226_55 : List Tok := (.sipush 664, 3, 0, 0) :: T226_56
def T226_54 : List Tok := (.getfield 7, 3, 704, 1345) :: T226_55
def T226_53 : List Tok := (.aload_n 0, 1, 0, 0) :: T226_54
def T226_52 : List Tok := (.if_icmp .ge 31, 3, 0, 0) :: T226_53
def T226_51 : List Tok := (.iload_n 1, 1, 0, 0) :: T226_52
def T226_50 : List Tok := (.iload_n 3, 1, 0, 0) :: T226_51
def T226_49 : List Tok := (.istore_n 3, 1, 0, 0) :: T226_50
def T226_48 : List Tok := (.iconst 0, 1, 0, 0) :: T226_49
def T226_47 : List Tok := (.iastore, 1, 0, 0) :: T226_48
def T226_46 : List Tok := (.iload_n 1, 1, 0, 0) :: T226_47
def T226_45 : List Tok := (.iadd, 1, 0, 0) :: T226_46
def T226_44 : List Tok := (.iload_n 2, 1, 0, 0) :: T226_45
def T226_43 : List Tok := (.sipush 658, 3, 0, 0) :: T226_44
def T226_42 : List Tok := (.getfield 7, 3, 704, 1345) :: T226_43
def T226_41 : List Tok := (.aload_n 0, 1, 0, 0) :: T226_42
def T226_40 : List Tok := (.iastore, 1, 0, 0) :: T226_41
def T226_39 : List Tok := (.iaload, 1, 0, 0) :: T226_40
def T226_38 : List Tok := (.iconst 0, 1, 0, 0) :: T226_39
def T226_37 : List Tok := (.getfield 7, 3, 704, 1345) :: T226_38
def T226_36 : List Tok := (.aload_n 0, 1, 0, 0) :: T226_37
def T226_35 : List Tok := (.iadd, 1, 0, 0) :: T226_36
def T226_34 : List Tok := (.iload_n 2, 1, 0, 0) :: T226_35
def T226_33 : List Tok := (.sipush 652, 3, 0, 0) :: T226_34
def T226_32 : List Tok := (.getfield 7, 3, 704, 1345) :: T226_33
def T226_31 : List Tok := (.aload_n 0, 1, 0, 0) :: T226_32
def T226_30 : List Tok := (.istore_n 2, 1, 0, 0) :: T226_31
def T226_29 : List Tok := (.iaload, 1, 0, 0) :: T226_30
def T226_28 : List Tok := (.iconst 4, 1, 0, 0) :: T226_29
def T226_27 : List Tok := (.getfield 7, 3, 704, 1345) :: T226_28
def T226_26 : List Tok := (.aload_n 0, 1, 0, 0) :: T226_27
def T226_25 : List Tok := (.ireturn, 1, 0, 0) :: T226_26
def T226_24 : List Tok := (.bipush (-2), 2, 0, 0) :: T226_25
def T226_23 : List Tok := (.if_icmp .ne 6, 3, 0, 0) :: T226_24
def T226_22 : List Tok := (.bipush 6, 2, 0, 0) :: T226_23
def T226_21 : List Tok := (.iaload, 1, 0, 0) :: T226_22
def T226_20 : List Tok := (.iconst 4, 1, 0, 0) :: T226_21
def T226_19 : List Tok := (.getfield 7, 3, 704, 1345) :: T226_20
def T226_18 : List Tok := (.aload_n 0, 1, 0, 0) :: T226_19
def T226_17 : List Tok := (.ireturn, 1, 0, 0) :: T226_18
def T226_16 : List Tok := (.isub, 1, 0, 0) :: T226_17
def T226_15 : List Tok := (.getfield 139, 3, 716, 1357) :: T226_16
def T226_14 : List Tok := (.aload_n 0, 1, 0, 0) :: T226_15
def T226_13 : List Tok := (.bipush (-100), 2, 0, 0) :: T226_14
def T226_12 : List Tok := (.ifCond .lt 11, 3, 0, 0) :: T226_13
def T226_11 : List Tok := (.getfield 139, 3, 716, 1357) :: T226_12
def T226_10 : List Tok := (.aload_n 0, 1, 0, 0) :: T226_11
def T226_9 : List Tok := (.putfield 109, 3, 708, 1349) :: T226_10
def T226_8 : List Tok := (.iconst 0, 1, 0, 0) :: T226_9
def T226_7 : List Tok := (.aload_n 0, 1, 0, 0) :: T226_8
def T226_6 : List Tok := (.invokevirtual 217, 3, 225, 1592) :: T226_7
def T226_5 : List Tok := (.iload_n 1, 1, 0, 0) :: T226_6
def T226_4 : List Tok := (.iconst (-1), 1, 0, 0) :: T226_5
def T226_3 : List Tok := (.aload_n 0, 1, 0, 0) :: T226_4
def T226_2 : List Tok := (.istore_n 1, 1, 0, 0) :: T226_3
def T226_1 : List Tok := (.getfield 109, 3, 708, 1349) :: T226_2
def T226_0 : List Tok := (.aload_n 0, 1, 0, 0) :: T226_1
theorem o226_0 (hB : BytesOK) : okL 226 0 T226_0 = true := by
  have h := hB.1 226
  rw [show tk 226 = T226_0 from by decide +kernel] at h
  exact h
theorem o226_1 (hB : BytesOK) : okL 226 1 T226_1 = true := (okL_c (o226_0 hB)).2.2
theorem o226_2 (hB : BytesOK) : okL 226 4 T226_2 = true := (okL_c (o226_1 hB)).2.2
theorem o226_3 (hB : BytesOK) : okL 226 5 T226_3 = true := (okL_c (o226_2 hB)).2.2
theorem o226_4 (hB : BytesOK) : okL 226 6 T226_4 = true := (okL_c (o226_3 hB)).2.2
theorem o226_5 (hB : BytesOK) : okL 226 7 T226_5 = true := (okL_c (o226_4 hB)).2.2
theorem o226_6 (hB : BytesOK) : okL 226 8 T226_6 = true := (okL_c (o226_5 hB)).2.2
theorem o226_7 (hB : BytesOK) : okL 226 11 T226_7 = true := (okL_c (o226_6 hB)).2.2
theorem o226_8 (hB : BytesOK) : okL 226 12 T226_8 = true := (okL_c (o226_7 hB)).2.2
theorem o226_9 (hB : BytesOK) : okL 226 13 T226_9 = true := (okL_c (o226_8 hB)).2.2
theorem o226_10 (hB : BytesOK) : okL 226 16 T226_10 = true := (okL_c (o226_9 hB)).2.2
theorem o226_11 (hB : BytesOK) : okL 226 17 T226_11 = true := (okL_c (o226_10 hB)).2.2
theorem o226_12 (hB : BytesOK) : okL 226 20 T226_12 = true := (okL_c (o226_11 hB)).2.2
theorem o226_13 (hB : BytesOK) : okL 226 23 T226_13 = true := (okL_c (o226_12 hB)).2.2
theorem o226_14 (hB : BytesOK) : okL 226 25 T226_14 = true := (okL_c (o226_13 hB)).2.2
theorem o226_15 (hB : BytesOK) : okL 226 26 T226_15 = true := (okL_c (o226_14 hB)).2.2
theorem o226_16 (hB : BytesOK) : okL 226 29 T226_16 = true := (okL_c (o226_15 hB)).2.2
theorem o226_17 (hB : BytesOK) : okL 226 30 T226_17 = true := (okL_c (o226_16 hB)).2.2
theorem o226_18 (hB : BytesOK) : okL 226 31 T226_18 = true := (okL_c (o226_17 hB)).2.2
theorem o226_19 (hB : BytesOK) : okL 226 32 T226_19 = true := (okL_c (o226_18 hB)).2.2
theorem o226_20 (hB : BytesOK) : okL 226 35 T226_20 = true := (okL_c (o226_19 hB)).2.2
theorem o226_21 (hB : BytesOK) : okL 226 36 T226_21 = true := (okL_c (o226_20 hB)).2.2
theorem o226_22 (hB : BytesOK) : okL 226 37 T226_22 = true := (okL_c (o226_21 hB)).2.2
theorem o226_23 (hB : BytesOK) : okL 226 39 T226_23 = true := (okL_c (o226_22 hB)).2.2
theorem o226_24 (hB : BytesOK) : okL 226 42 T226_24 = true := (okL_c (o226_23 hB)).2.2
theorem o226_25 (hB : BytesOK) : okL 226 44 T226_25 = true := (okL_c (o226_24 hB)).2.2
theorem o226_26 (hB : BytesOK) : okL 226 45 T226_26 = true := (okL_c (o226_25 hB)).2.2
theorem o226_27 (hB : BytesOK) : okL 226 46 T226_27 = true := (okL_c (o226_26 hB)).2.2
theorem o226_28 (hB : BytesOK) : okL 226 49 T226_28 = true := (okL_c (o226_27 hB)).2.2
theorem o226_29 (hB : BytesOK) : okL 226 50 T226_29 = true := (okL_c (o226_28 hB)).2.2
theorem o226_30 (hB : BytesOK) : okL 226 51 T226_30 = true := (okL_c (o226_29 hB)).2.2
theorem o226_31 (hB : BytesOK) : okL 226 52 T226_31 = true := (okL_c (o226_30 hB)).2.2
theorem o226_32 (hB : BytesOK) : okL 226 53 T226_32 = true := (okL_c (o226_31 hB)).2.2
theorem o226_33 (hB : BytesOK) : okL 226 56 T226_33 = true := (okL_c (o226_32 hB)).2.2
theorem o226_34 (hB : BytesOK) : okL 226 59 T226_34 = true := (okL_c (o226_33 hB)).2.2
theorem o226_35 (hB : BytesOK) : okL 226 60 T226_35 = true := (okL_c (o226_34 hB)).2.2
theorem o226_36 (hB : BytesOK) : okL 226 61 T226_36 = true := (okL_c (o226_35 hB)).2.2
theorem o226_37 (hB : BytesOK) : okL 226 62 T226_37 = true := (okL_c (o226_36 hB)).2.2
theorem o226_38 (hB : BytesOK) : okL 226 65 T226_38 = true := (okL_c (o226_37 hB)).2.2
theorem o226_39 (hB : BytesOK) : okL 226 66 T226_39 = true := (okL_c (o226_38 hB)).2.2
theorem o226_40 (hB : BytesOK) : okL 226 67 T226_40 = true := (okL_c (o226_39 hB)).2.2
theorem o226_41 (hB : BytesOK) : okL 226 68 T226_41 = true := (okL_c (o226_40 hB)).2.2
theorem o226_42 (hB : BytesOK) : okL 226 69 T226_42 = true := (okL_c (o226_41 hB)).2.2
theorem o226_43 (hB : BytesOK) : okL 226 72 T226_43 = true := (okL_c (o226_42 hB)).2.2
theorem o226_44 (hB : BytesOK) : okL 226 75 T226_44 = true := (okL_c (o226_43 hB)).2.2
theorem o226_45 (hB : BytesOK) : okL 226 76 T226_45 = true := (okL_c (o226_44 hB)).2.2
theorem o226_46 (hB : BytesOK) : okL 226 77 T226_46 = true := (okL_c (o226_45 hB)).2.2
theorem o226_47 (hB : BytesOK) : okL 226 78 T226_47 = true := (okL_c (o226_46 hB)).2.2
theorem o226_48 (hB : BytesOK) : okL 226 79 T226_48 = true := (okL_c (o226_47 hB)).2.2
theorem o226_49 (hB : BytesOK) : okL 226 80 T226_49 = true := (okL_c (o226_48 hB)).2.2
theorem o226_50 (hB : BytesOK) : okL 226 81 T226_50 = true := (okL_c (o226_49 hB)).2.2
theorem o226_51 (hB : BytesOK) : okL 226 82 T226_51 = true := (okL_c (o226_50 hB)).2.2
theorem o226_52 (hB : BytesOK) : okL 226 83 T226_52 = true := (okL_c (o226_51 hB)).2.2
theorem o226_53 (hB : BytesOK) : okL 226 86 T226_53 = true := (okL_c (o226_52 hB)).2.2
theorem o226_54 (hB : BytesOK) : okL 226 87 T226_54 = true := (okL_c (o226_53 hB)).2.2
theorem o226_55 (hB : BytesOK) : okL 226 90 T226_55 = true := (okL_c (o226_54 hB)).2.2
theorem o226_56 (hB : BytesOK) : okL 226 93 T226_56 = true := (okL_c (o226_55 hB)).2.2
theorem o226_57 (hB : BytesOK) : okL 226 96 T226_57 = true := (okL_c (o226_56 hB)).2.2
theorem o226_58 (hB : BytesOK) : okL 226 97 T226_58 = true := (okL_c (o226_57 hB)).2.2
theorem o226_59 (hB : BytesOK) : okL 226 98 T226_59 = true := (okL_c (o226_58 hB)).2.2
theorem o226_60 (hB : BytesOK) : okL 226 99 T226_60 = true := (okL_c (o226_59 hB)).2.2
theorem o226_61 (hB : BytesOK) : okL 226 100 T226_61 = true := (okL_c (o226_60 hB)).2.2
theorem o226_62 (hB : BytesOK) : okL 226 101 T226_62 = true := (okL_c (o226_61 hB)).2.2
theorem o226_63 (hB : BytesOK) : okL 226 102 T226_63 = true := (okL_c (o226_62 hB)).2.2
theorem o226_64 (hB : BytesOK) : okL 226 105 T226_64 = true := (okL_c (o226_63 hB)).2.2
theorem o226_65 (hB : BytesOK) : okL 226 106 T226_65 = true := (okL_c (o226_64 hB)).2.2
theorem o226_66 (hB : BytesOK) : okL 226 107 T226_66 = true := (okL_c (o226_65 hB)).2.2
theorem o226_67 (hB : BytesOK) : okL 226 108 T226_67 = true := (okL_c (o226_66 hB)).2.2
theorem o226_68 (hB : BytesOK) : okL 226 111 T226_68 = true := (okL_c (o226_67 hB)).2.2
theorem o226_69 (hB : BytesOK) : okL 226 114 T226_69 = true := (okL_c (o226_68 hB)).2.2
theorem o226_70 (hB : BytesOK) : okL 226 115 T226_70 = true := (okL_c (o226_69 hB)).2.2
theorem o226_71 (hB : BytesOK) : okL 226 118 T226_71 = true := (okL_c (o226_70 hB)).2.2
theorem o226_72 (hB : BytesOK) : okL 226 119 T226_72 = true := (okL_c (o226_71 hB)).2.2
theorem o226_73 (hB : BytesOK) : okL 226 120 T226_73 = true := (okL_c (o226_72 hB)).2.2
theorem o226_74 (hB : BytesOK) : okL 226 121 T226_74 = true := (okL_c (o226_73 hB)).2.2
theorem o226_75 (hB : BytesOK) : okL 226 122 T226_75 = true := (okL_c (o226_74 hB)).2.2
theorem o226_76 (hB : BytesOK) : okL 226 123 T226_76 = true := (okL_c (o226_75 hB)).2.2
theorem o226_77 (hB : BytesOK) : okL 226 124 T226_77 = true := (okL_c (o226_76 hB)).2.2
theorem o226_78 (hB : BytesOK) : okL 226 125 T226_78 = true := (okL_c (o226_77 hB)).2.2
theorem ml226 : mml 226 = 4 := by decide +kernel
theorem mr226 : mret 226 = some .int := by decide +kernel
theorem mg226 : kGood 226 = true := by decide +kernel

def T227_74 : List Tok := []
def T227_73 : List Tok := (.ireturn, 1, 0, 0) :: T227_74
def T227_72 : List Tok := (.iconst (-1), 1, 0, 0) :: T227_73
def T227_71 : List Tok := (.goto 4, 3, 0, 0) :: T227_72
def T227_70 : List Tok := (.iaload, 1, 0, 0) :: T227_71
def T227_69 : List Tok := (.isub, 1, 0, 0) :: T227_70
def T227_68 : List Tok := (.bipush 30, 2, 0, 0) :: T227_69
def T227_67 : List Tok := (.iload_n 2, 1, 0, 0) :: T227_68
def T227_66 : List Tok := (.getfield 25, 3, 724, 1365) :: T227_67
def T227_65 : List Tok := (.aload_n 0, 1, 0, 0) :: T227_66
def T227_64 : List Tok := (.ifCond .eq 15, 3, 0, 0) :: T227_65
def T227_63 : List Tok := (.invokestatic 64, 3, 184, 1491) :: T227_64
def T227_62 : List Tok := (.iadd, 1, 0, 0) :: T227_63
def T227_61 : List Tok := (.getfield 211, 3, 725, 1366) :: T227_62
def T227_60 : List Tok := (.aload_n 0, 1, 0, 0) :: T227_61
def T227_59 : List Tok := (.bipush 29, 2, 0, 0) :: T227_60
def T227_58 : List Tok := (.bipush 30, 2, 0, 0) :: T227_59
def T227_57 : List Tok := (.iload_n 2, 1, 0, 0) :: T227_58
def T227_56 : List Tok := (.goto 32, 3, 0, 0) :: T227_57
def T227_55 : List Tok := (.iaload, 1, 0, 0) :: T227_56
def T227_54 : List Tok := (.isub, 1, 0, 0) :: T227_55
def T227_53 : List Tok := (.bipush 10, 2, 0, 0) :: T227_54
def T227_52 : List Tok := (.iload_n 2, 1, 0, 0) :: T227_53
def T227_51 : List Tok := (.getfield 22, 3, 723, 1364) :: T227_52
def T227_50 : List Tok := (.aload_n 0, 1, 0, 0) :: T227_51
def T227_49 : List Tok := (.ifCond .eq 15, 3, 0, 0) :: T227_50
def T227_48 : List Tok := (.invokestatic 64, 3, 184, 1491) :: T227_49
def T227_47 : List Tok := (.iadd, 1, 0, 0) :: T227_48
def T227_46 : List Tok := (.getfield 211, 3, 725, 1366) :: T227_47
def T227_45 : List Tok := (.aload_n 0, 1, 0, 0) :: T227_46
def T227_44 : List Tok := (.bipush 9, 2, 0, 0) :: T227_45
def T227_43 : List Tok := (.bipush 10, 2, 0, 0) :: T227_44
def T227_42 : List Tok := (.iload_n 2, 1, 0, 0) :: T227_43
def T227_41 : List Tok := (.ireturn, 1, 0, 0) :: T227_42
def T227_40 : List Tok := (.iaload, 1, 0, 0) :: T227_41
def T227_39 : List Tok := (.iadd, 1, 0, 0) :: T227_40
def T227_38 : List Tok := (.iload_n 1, 1, 0, 0) :: T227_39
def T227_37 : List Tok := (.sipush 652, 3, 0, 0) :: T227_38
def T227_36 : List Tok := (.getfield 7, 3, 704, 1345) :: T227_37
def T227_35 : List Tok := (.aload_n 0, 1, 0, 0) :: T227_36
def T227_34 : List Tok := (.goto 13, 3, 0, 0) :: T227_35
def T227_33 : List Tok := (.getfield 211, 3, 725, 1366) :: T227_34
def T227_32 : List Tok := (.aload_n 0, 1, 0, 0) :: T227_33
def T227_31 : List Tok := (.ifCond .ne 10, 3, 0, 0) :: T227_32
def T227_30 : List Tok := (.iload_n 2, 1, 0, 0) :: T227_31
def T227_29 : List Tok := (.if_icmp .ne 25, 3, 0, 0) :: T227_30
def T227_28 : List Tok := (.iconst 1, 1, 0, 0) :: T227_29
def T227_27 : List Tok := (.iload_n 2, 1, 0, 0) :: T227_28
def T227_26 : List Tok := (.ifCond .eq 8, 3, 0, 0) :: T227_27
def T227_25 : List Tok := (.iload_n 2, 1, 0, 0) :: T227_26
def T227_24 : List Tok := (.invokevirtual 217, 3, 225, 1592) :: T227_25
def T227_23 : List Tok := (.iaload, 1, 0, 0) :: T227_24
def T227_22 : List Tok := (.iadd, 1, 0, 0) :: T227_23
def T227_21 : List Tok := (.iload_n 1, 1, 0, 0) :: T227_22
def T227_20 : List Tok := (.sipush 658, 3, 0, 0) :: T227_21
def T227_19 : List Tok := (.getfield 7, 3, 704, 1345) :: T227_20
def T227_18 : List Tok := (.aload_n 0, 1, 0, 0) :: T227_19
def T227_17 : List Tok := (.iadd, 1, 0, 0) :: T227_18
def T227_16 : List Tok := (.imul, 1, 0, 0) :: T227_17
def T227_15 : List Tok := (.iload_n 1, 1, 0, 0) :: T227_16
def T227_14 : List Tok := (.sipush 220, 3, 0, 0) :: T227_15
def T227_13 : List Tok := (.sipush 664, 3, 0, 0) :: T227_14
def T227_12 : List Tok := (.aload_n 0, 1, 0, 0) :: T227_13
def T227_11 : List Tok := (.ireturn, 1, 0, 0) :: T227_12
def T227_10 : List Tok := (.iconst (-1), 1, 0, 0) :: T227_11
def T227_9 : List Tok := (.ifCond .ne 5, 3, 0, 0) :: T227_10
def T227_8 : List Tok := (.invokestatic 64, 3, 184, 1491) :: T227_9
def T227_7 : List Tok := (.isub, 1, 0, 0) :: T227_8
def T227_6 : List Tok := (.iconst 1, 1, 0, 0) :: T227_7
def T227_5 : List Tok := (.iaload, 1, 0, 0) :: T227_6
def T227_4 : List Tok := (.iconst 4, 1, 0, 0) :: T227_5
def T227_3 : List Tok := (.getfield 7, 3, 704, 1345) :: T227_4
def T227_2 : List Tok := (.aload_n 0, 1, 0, 0) :: T227_3
def T227_1 : List Tok := (.iconst 0, 1, 0, 0) :: T227_2
def T227_0 : List Tok := (.iload_n 1, 1, 0, 0) :: T227_1
theorem o227_0 (hB : BytesOK) : okL 227 0 T227_0 = true := by
  have h := hB.1 227
  rw [show tk 227 = T227_0 from by decide +kernel] at h
  exact h
theorem o227_1 (hB : BytesOK) : okL 227 1 T227_1 = true := (okL_c (o227_0 hB)).2.2
theorem o227_2 (hB : BytesOK) : okL 227 2 T227_2 = true := (okL_c (o227_1 hB)).2.2
theorem o227_3 (hB : BytesOK) : okL 227 3 T227_3 = true := (okL_c (o227_2 hB)).2.2
theorem o227_4 (hB : BytesOK) : okL 227 6 T227_4 = true := (okL_c (o227_3 hB)).2.2
theorem o227_5 (hB : BytesOK) : okL 227 7 T227_5 = true := (okL_c (o227_4 hB)).2.2
theorem o227_6 (hB : BytesOK) : okL 227 8 T227_6 = true := (okL_c (o227_5 hB)).2.2
theorem o227_7 (hB : BytesOK) : okL 227 9 T227_7 = true := (okL_c (o227_6 hB)).2.2
theorem o227_8 (hB : BytesOK) : okL 227 10 T227_8 = true := (okL_c (o227_7 hB)).2.2
theorem o227_9 (hB : BytesOK) : okL 227 13 T227_9 = true := (okL_c (o227_8 hB)).2.2
theorem o227_10 (hB : BytesOK) : okL 227 16 T227_10 = true := (okL_c (o227_9 hB)).2.2
theorem o227_11 (hB : BytesOK) : okL 227 17 T227_11 = true := (okL_c (o227_10 hB)).2.2
theorem o227_12 (hB : BytesOK) : okL 227 18 T227_12 = true := (okL_c (o227_11 hB)).2.2
theorem o227_13 (hB : BytesOK) : okL 227 19 T227_13 = true := (okL_c (o227_12 hB)).2.2
theorem o227_14 (hB : BytesOK) : okL 227 22 T227_14 = true := (okL_c (o227_13 hB)).2.2
theorem o227_15 (hB : BytesOK) : okL 227 25 T227_15 = true := (okL_c (o227_14 hB)).2.2
theorem o227_16 (hB : BytesOK) : okL 227 26 T227_16 = true := (okL_c (o227_15 hB)).2.2
theorem o227_17 (hB : BytesOK) : okL 227 27 T227_17 = true := (okL_c (o227_16 hB)).2.2
theorem o227_18 (hB : BytesOK) : okL 227 28 T227_18 = true := (okL_c (o227_17 hB)).2.2
theorem o227_19 (hB : BytesOK) : okL 227 29 T227_19 = true := (okL_c (o227_18 hB)).2.2
theorem o227_20 (hB : BytesOK) : okL 227 32 T227_20 = true := (okL_c (o227_19 hB)).2.2
theorem o227_21 (hB : BytesOK) : okL 227 35 T227_21 = true := (okL_c (o227_20 hB)).2.2
theorem o227_22 (hB : BytesOK) : okL 227 36 T227_22 = true := (okL_c (o227_21 hB)).2.2
theorem o227_23 (hB : BytesOK) : okL 227 37 T227_23 = true := (okL_c (o227_22 hB)).2.2
theorem o227_24 (hB : BytesOK) : okL 227 38 T227_24 = true := (okL_c (o227_23 hB)).2.2
theorem o227_25 (hB : BytesOK) : okL 227 41 T227_25 = true := (okL_c (o227_24 hB)).2.2
theorem o227_26 (hB : BytesOK) : okL 227 42 T227_26 = true := (okL_c (o227_25 hB)).2.2
theorem o227_27 (hB : BytesOK) : okL 227 45 T227_27 = true := (okL_c (o227_26 hB)).2.2
theorem o227_28 (hB : BytesOK) : okL 227 46 T227_28 = true := (okL_c (o227_27 hB)).2.2
theorem o227_29 (hB : BytesOK) : okL 227 47 T227_29 = true := (okL_c (o227_28 hB)).2.2
theorem o227_30 (hB : BytesOK) : okL 227 50 T227_30 = true := (okL_c (o227_29 hB)).2.2
theorem o227_31 (hB : BytesOK) : okL 227 51 T227_31 = true := (okL_c (o227_30 hB)).2.2
theorem o227_32 (hB : BytesOK) : okL 227 54 T227_32 = true := (okL_c (o227_31 hB)).2.2
theorem o227_33 (hB : BytesOK) : okL 227 55 T227_33 = true := (okL_c (o227_32 hB)).2.2
theorem o227_34 (hB : BytesOK) : okL 227 58 T227_34 = true := (okL_c (o227_33 hB)).2.2
theorem o227_35 (hB : BytesOK) : okL 227 61 T227_35 = true := (okL_c (o227_34 hB)).2.2
theorem o227_36 (hB : BytesOK) : okL 227 62 T227_36 = true := (okL_c (o227_35 hB)).2.2
theorem o227_37 (hB : BytesOK) : okL 227 65 T227_37 = true := (okL_c (o227_36 hB)).2.2
theorem o227_38 (hB : BytesOK) : okL 227 68 T227_38 = true := (okL_c (o227_37 hB)).2.2
theorem o227_39 (hB : BytesOK) : okL 227 69 T227_39 = true := (okL_c (o227_38 hB)).2.2
theorem o227_40 (hB : BytesOK) : okL 227 70 T227_40 = true := (okL_c (o227_39 hB)).2.2
theorem o227_41 (hB : BytesOK) : okL 227 71 T227_41 = true := (okL_c (o227_40 hB)).2.2
theorem o227_42 (hB : BytesOK) : okL 227 72 T227_42 = true := (okL_c (o227_41 hB)).2.2
theorem o227_43 (hB : BytesOK) : okL 227 73 T227_43 = true := (okL_c (o227_42 hB)).2.2
theorem o227_44 (hB : BytesOK) : okL 227 75 T227_44 = true := (okL_c (o227_43 hB)).2.2
theorem o227_45 (hB : BytesOK) : okL 227 77 T227_45 = true := (okL_c (o227_44 hB)).2.2
theorem o227_46 (hB : BytesOK) : okL 227 78 T227_46 = true := (okL_c (o227_45 hB)).2.2
theorem o227_47 (hB : BytesOK) : okL 227 81 T227_47 = true := (okL_c (o227_46 hB)).2.2
theorem o227_48 (hB : BytesOK) : okL 227 82 T227_48 = true := (okL_c (o227_47 hB)).2.2
theorem o227_49 (hB : BytesOK) : okL 227 85 T227_49 = true := (okL_c (o227_48 hB)).2.2
theorem o227_50 (hB : BytesOK) : okL 227 88 T227_50 = true := (okL_c (o227_49 hB)).2.2
theorem o227_51 (hB : BytesOK) : okL 227 89 T227_51 = true := (okL_c (o227_50 hB)).2.2
theorem o227_52 (hB : BytesOK) : okL 227 92 T227_52 = true := (okL_c (o227_51 hB)).2.2
theorem o227_53 (hB : BytesOK) : okL 227 93 T227_53 = true := (okL_c (o227_52 hB)).2.2
theorem o227_54 (hB : BytesOK) : okL 227 95 T227_54 = true := (okL_c (o227_53 hB)).2.2
theorem o227_55 (hB : BytesOK) : okL 227 96 T227_55 = true := (okL_c (o227_54 hB)).2.2
theorem o227_56 (hB : BytesOK) : okL 227 97 T227_56 = true := (okL_c (o227_55 hB)).2.2
theorem o227_57 (hB : BytesOK) : okL 227 100 T227_57 = true := (okL_c (o227_56 hB)).2.2
theorem o227_58 (hB : BytesOK) : okL 227 101 T227_58 = true := (okL_c (o227_57 hB)).2.2
theorem o227_59 (hB : BytesOK) : okL 227 103 T227_59 = true := (okL_c (o227_58 hB)).2.2
theorem o227_60 (hB : BytesOK) : okL 227 105 T227_60 = true := (okL_c (o227_59 hB)).2.2
theorem o227_61 (hB : BytesOK) : okL 227 106 T227_61 = true := (okL_c (o227_60 hB)).2.2
theorem o227_62 (hB : BytesOK) : okL 227 109 T227_62 = true := (okL_c (o227_61 hB)).2.2
theorem o227_63 (hB : BytesOK) : okL 227 110 T227_63 = true := (okL_c (o227_62 hB)).2.2
theorem o227_64 (hB : BytesOK) : okL 227 113 T227_64 = true := (okL_c (o227_63 hB)).2.2
theorem o227_65 (hB : BytesOK) : okL 227 116 T227_65 = true := (okL_c (o227_64 hB)).2.2
theorem o227_66 (hB : BytesOK) : okL 227 117 T227_66 = true := (okL_c (o227_65 hB)).2.2
theorem o227_67 (hB : BytesOK) : okL 227 120 T227_67 = true := (okL_c (o227_66 hB)).2.2
theorem o227_68 (hB : BytesOK) : okL 227 121 T227_68 = true := (okL_c (o227_67 hB)).2.2
theorem o227_69 (hB : BytesOK) : okL 227 123 T227_69 = true := (okL_c (o227_68 hB)).2.2
theorem o227_70 (hB : BytesOK) : okL 227 124 T227_70 = true := (okL_c (o227_69 hB)).2.2
theorem o227_71 (hB : BytesOK) : okL 227 125 T227_71 = true := (okL_c (o227_70 hB)).2.2
theorem o227_72 (hB : BytesOK) : okL 227 128 T227_72 = true := (okL_c (o227_71 hB)).2.2
theorem o227_73 (hB : BytesOK) : okL 227 129 T227_73 = true := (okL_c (o227_72 hB)).2.2
theorem ml227 : mml 227 = 3 := by decide +kernel
theorem mr227 : mret 227 = some .int := by decide +kernel
theorem mg227 : kGood 227 = true := by decide +kernel

def T229_21 : List Tok := []
def T229_20 : List Tok := (.ireturn, 1, 0, 0) :: T229_21
def T229_19 : List Tok := (.iconst 0, 1, 0, 0) :: T229_20
def T229_18 : List Tok := (.goto 4, 3, 0, 0) :: T229_19
def T229_17 : List Tok := (.iconst 1, 1, 0, 0) :: T229_18
def T229_16 : List Tok := (.ifCond .eq 7, 3, 0, 0) :: T229_17
def T229_15 : List Tok := (.invokestatic 72, 3, 185, 1501) :: T229_16
def T229_14 : List Tok := (.irem, 1, 0, 0) :: T229_15
def T229_13 : List Tok := (.sipush 1000, 3, 0, 0) :: T229_14
def T229_12 : List Tok := (.iload_n 0, 1, 0, 0) :: T229_13
def T229_11 : List Tok := (.if_icmp .ge 18, 3, 0, 0) :: T229_12
def T229_10 : List Tok := (.iconst 4, 1, 0, 0) :: T229_11
def T229_9 : List Tok := (.irem, 1, 0, 0) :: T229_10
def T229_8 : List Tok := (.bipush 10, 2, 0, 0) :: T229_9
def T229_7 : List Tok := (.idiv, 1, 0, 0) :: T229_8
def T229_6 : List Tok := (.sipush 1000, 3, 0, 0) :: T229_7
def T229_5 : List Tok := (.iload_n 0, 1, 0, 0) :: T229_6
def T229_4 : List Tok := (.ifCond .eq 30, 3, 0, 0) :: T229_5
def T229_3 : List Tok := (.invokestatic 64, 3, 184, 1491) :: T229_4
def T229_2 : List Tok := (.ldc 221, 2, 14, 1663) :: T229_3
def T229_1 : List Tok := (.iconst 0, 1, 0, 0) :: T229_2
def T229_0 : List Tok := (.iload_n 0, 1, 0, 0) :: T229_1
theorem o229_0 (hB : BytesOK) : okL 229 0 T229_0 = true := by
  have h := hB.1 229
  rw [show tk 229 = T229_0 from by decide +kernel] at h
  exact h
theorem o229_1 (hB : BytesOK) : okL 229 1 T229_1 = true := (okL_c (o229_0 hB)).2.2
theorem o229_2 (hB : BytesOK) : okL 229 2 T229_2 = true := (okL_c (o229_1 hB)).2.2
theorem o229_3 (hB : BytesOK) : okL 229 4 T229_3 = true := (okL_c (o229_2 hB)).2.2
theorem o229_4 (hB : BytesOK) : okL 229 7 T229_4 = true := (okL_c (o229_3 hB)).2.2
theorem o229_5 (hB : BytesOK) : okL 229 10 T229_5 = true := (okL_c (o229_4 hB)).2.2
theorem o229_6 (hB : BytesOK) : okL 229 11 T229_6 = true := (okL_c (o229_5 hB)).2.2
theorem o229_7 (hB : BytesOK) : okL 229 14 T229_7 = true := (okL_c (o229_6 hB)).2.2
theorem o229_8 (hB : BytesOK) : okL 229 15 T229_8 = true := (okL_c (o229_7 hB)).2.2
theorem o229_9 (hB : BytesOK) : okL 229 17 T229_9 = true := (okL_c (o229_8 hB)).2.2
theorem o229_10 (hB : BytesOK) : okL 229 18 T229_10 = true := (okL_c (o229_9 hB)).2.2
theorem o229_11 (hB : BytesOK) : okL 229 19 T229_11 = true := (okL_c (o229_10 hB)).2.2
theorem o229_12 (hB : BytesOK) : okL 229 22 T229_12 = true := (okL_c (o229_11 hB)).2.2
theorem o229_13 (hB : BytesOK) : okL 229 23 T229_13 = true := (okL_c (o229_12 hB)).2.2
theorem o229_14 (hB : BytesOK) : okL 229 26 T229_14 = true := (okL_c (o229_13 hB)).2.2
theorem o229_15 (hB : BytesOK) : okL 229 27 T229_15 = true := (okL_c (o229_14 hB)).2.2
theorem o229_16 (hB : BytesOK) : okL 229 30 T229_16 = true := (okL_c (o229_15 hB)).2.2
theorem o229_17 (hB : BytesOK) : okL 229 33 T229_17 = true := (okL_c (o229_16 hB)).2.2
theorem o229_18 (hB : BytesOK) : okL 229 34 T229_18 = true := (okL_c (o229_17 hB)).2.2
theorem o229_19 (hB : BytesOK) : okL 229 37 T229_19 = true := (okL_c (o229_18 hB)).2.2
theorem o229_20 (hB : BytesOK) : okL 229 38 T229_20 = true := (okL_c (o229_19 hB)).2.2
theorem ml229 : mml 229 = 1 := by decide +kernel
theorem mr229 : mret 229 = some .boolean := by decide +kernel
theorem mg229 : kGood 229 = true := by decide +kernel

def T300_7 : List Tok := []
def T300_6 : List Tok := (.ireturn, 1, 0, 0) :: T300_7
def T300_5 : List Tok := (.iload_n 1, 1, 0, 0) :: T300_6
def T300_4 : List Tok := (.goto 4, 3, 0, 0) :: T300_5
def T300_3 : List Tok := (.iload_n 0, 1, 0, 0) :: T300_4
def T300_2 : List Tok := (.if_icmp .gt 7, 3, 0, 0) :: T300_3
def T300_1 : List Tok := (.iload_n 1, 1, 0, 0) :: T300_2
def T300_0 : List Tok := (.iload_n 0, 1, 0, 0) :: T300_1
theorem o300_0 (hB : BytesOK) : okL 300 0 T300_0 = true := by
  have h := hB.1 300
  rw [show tk 300 = T300_0 from by decide +kernel] at h
  exact h
theorem o300_1 (hB : BytesOK) : okL 300 1 T300_1 = true := (okL_c (o300_0 hB)).2.2
theorem o300_2 (hB : BytesOK) : okL 300 2 T300_2 = true := (okL_c (o300_1 hB)).2.2
theorem o300_3 (hB : BytesOK) : okL 300 5 T300_3 = true := (okL_c (o300_2 hB)).2.2
theorem o300_4 (hB : BytesOK) : okL 300 6 T300_4 = true := (okL_c (o300_3 hB)).2.2
theorem o300_5 (hB : BytesOK) : okL 300 9 T300_5 = true := (okL_c (o300_4 hB)).2.2
theorem o300_6 (hB : BytesOK) : okL 300 10 T300_6 = true := (okL_c (o300_5 hB)).2.2
theorem ml300 : mml 300 = 2 := by decide +kernel
theorem mr300 : mret 300 = some .int := by decide +kernel
theorem mg300 : kGood 300 = true := by decide +kernel
