/-! THE METHODS' INSTRUCTIONS -/
def T18_15 : List Tok := []
def T18_14 : List Tok := (.return_, 1, 0, 0) :: T18_15
def T18_13 : List Tok := (.invokestatic 30, 3, 178, 300000) :: T18_14
def T18_12 : List Tok := (.getfield 15, 3, 66, 201) :: T18_13
def T18_11 : List Tok := (.aload_n 0, 1, 0, 0) :: T18_12
def T18_10 : List Tok := (.getfield 15, 3, 66, 201) :: T18_11
def T18_9 : List Tok := (.aload_n 1, 1, 0, 0) :: T18_10
def T18_8 : List Tok := (.invokestatic 30, 3, 178, 300000) :: T18_9
def T18_7 : List Tok := (.getfield 9, 3, 65, 200) :: T18_8
def T18_6 : List Tok := (.aload_n 0, 1, 0, 0) :: T18_7
def T18_5 : List Tok := (.getfield 9, 3, 65, 200) :: T18_6
def T18_4 : List Tok := (.aload_n 1, 1, 0, 0) :: T18_5
def T18_3 : List Tok := (.putfield 22, 3, 64, 198) :: T18_4
def T18_2 : List Tok := (.getfield 22, 3, 64, 198) :: T18_3
def T18_1 : List Tok := (.aload_n 1, 1, 0, 0) :: T18_2
def T18_0 : List Tok := (.aload_n 0, 1, 0, 0) :: T18_1
theorem o18_0 (hB : BytesOK) : okL 18 0 T18_0 = true := by
  have h := hB.1 18
  rw [show tk 18 = T18_0 from by decide +kernel] at h
  exact h
theorem o18_1 (hB : BytesOK) : okL 18 1 T18_1 = true := (okL_c (o18_0 hB)).2.2
theorem o18_2 (hB : BytesOK) : okL 18 2 T18_2 = true := (okL_c (o18_1 hB)).2.2
theorem o18_3 (hB : BytesOK) : okL 18 5 T18_3 = true := (okL_c (o18_2 hB)).2.2
theorem o18_4 (hB : BytesOK) : okL 18 8 T18_4 = true := (okL_c (o18_3 hB)).2.2
theorem o18_5 (hB : BytesOK) : okL 18 9 T18_5 = true := (okL_c (o18_4 hB)).2.2
theorem o18_6 (hB : BytesOK) : okL 18 12 T18_6 = true := (okL_c (o18_5 hB)).2.2
theorem o18_7 (hB : BytesOK) : okL 18 13 T18_7 = true := (okL_c (o18_6 hB)).2.2
theorem o18_8 (hB : BytesOK) : okL 18 16 T18_8 = true := (okL_c (o18_7 hB)).2.2
theorem o18_9 (hB : BytesOK) : okL 18 19 T18_9 = true := (okL_c (o18_8 hB)).2.2
theorem o18_10 (hB : BytesOK) : okL 18 20 T18_10 = true := (okL_c (o18_9 hB)).2.2
theorem o18_11 (hB : BytesOK) : okL 18 23 T18_11 = true := (okL_c (o18_10 hB)).2.2
theorem o18_12 (hB : BytesOK) : okL 18 24 T18_12 = true := (okL_c (o18_11 hB)).2.2
theorem o18_13 (hB : BytesOK) : okL 18 27 T18_13 = true := (okL_c (o18_12 hB)).2.2
theorem o18_14 (hB : BytesOK) : okL 18 30 T18_14 = true := (okL_c (o18_13 hB)).2.2
theorem ml18 : mml 18 = 2 := by decide +kernel
theorem mr18 : mret 18 = none := by decide +kernel
theorem mg18 : kGood 18 = true := by decide +kernel

def T43_49 : List Tok := []
def T43_48 : List Tok := (.return_, 1, 0, 0) :: T43_49
def T43_47 : List Tok := (.goto (-39), 3, 0, 0) :: T43_48
def T43_46 : List Tok := (.iinc 2 1, 3, 0, 0) :: T43_47
def T43_45 : List Tok := (.invokevirtual 84, 3, 105, 818) :: T43_46
def T43_44 : List Tok := (.aload 4, 2, 0, 0) :: T43_45
def T43_43 : List Tok := (.aload_n 3, 1, 0, 0) :: T43_44
def T43_42 : List Tok := (.ifnull 9, 3, 0, 0) :: T43_43
def T43_41 : List Tok := (.aload 4, 2, 0, 0) :: T43_42
def T43_40 : List Tok := (.ifnull 14, 3, 0, 0) :: T43_41
def T43_39 : List Tok := (.aload_n 3, 1, 0, 0) :: T43_40
def T43_38 : List Tok := (.astore 4, 2, 0, 0) :: T43_39
def T43_37 : List Tok := (.aaload, 1, 0, 0) :: T43_38
def T43_36 : List Tok := (.iload_n 2, 1, 0, 0) :: T43_37
def T43_35 : List Tok := (.getfield 41, 3, 133, 375) :: T43_36
def T43_34 : List Tok := (.aload_n 1, 1, 0, 0) :: T43_35
def T43_33 : List Tok := (.astore_n 3, 1, 0, 0) :: T43_34
def T43_32 : List Tok := (.aaload, 1, 0, 0) :: T43_33
def T43_31 : List Tok := (.iload_n 2, 1, 0, 0) :: T43_32
def T43_30 : List Tok := (.getfield 41, 3, 133, 375) :: T43_31
def T43_29 : List Tok := (.aload_n 0, 1, 0, 0) :: T43_30
def T43_28 : List Tok := (.if_icmp .ge 39, 3, 0, 0) :: T43_29
def T43_27 : List Tok := (.bipush 6, 2, 0, 0) :: T43_28
def T43_26 : List Tok := (.iload_n 2, 1, 0, 0) :: T43_27
def T43_25 : List Tok := (.istore_n 2, 1, 0, 0) :: T43_26
def T43_24 : List Tok := (.iconst 0, 1, 0, 0) :: T43_25
def T43_23 : List Tok := (.putfield 81, 3, 132, 373) :: T43_24
def T43_22 : List Tok := (.getfield 81, 3, 132, 373) :: T43_23
def T43_21 : List Tok := (.aload_n 1, 1, 0, 0) :: T43_22
def T43_20 : List Tok := (.aload_n 0, 1, 0, 0) :: T43_21
def T43_19 : List Tok := (.invokevirtual 237, 3, 79, 1330) :: T43_20
def T43_18 : List Tok := (.getfield 35, 3, 131, 371) :: T43_19
def T43_17 : List Tok := (.aload_n 1, 1, 0, 0) :: T43_18
def T43_16 : List Tok := (.getfield 35, 3, 131, 371) :: T43_17
def T43_15 : List Tok := (.aload_n 0, 1, 0, 0) :: T43_16
def T43_14 : List Tok := (.invokevirtual 234, 3, 121, 1325) :: T43_15
def T43_13 : List Tok := (.getfield 28, 3, 130, 369) :: T43_14
def T43_12 : List Tok := (.aload_n 1, 1, 0, 0) :: T43_13
def T43_11 : List Tok := (.getfield 28, 3, 130, 369) :: T43_12
def T43_10 : List Tok := (.aload_n 0, 1, 0, 0) :: T43_11
def T43_9 : List Tok := (.invokevirtual 231, 3, 18, 1320) :: T43_10
def T43_8 : List Tok := (.getfield 21, 3, 129, 367) :: T43_9
def T43_7 : List Tok := (.aload_n 1, 1, 0, 0) :: T43_8
def T43_6 : List Tok := (.getfield 21, 3, 129, 367) :: T43_7
def T43_5 : List Tok := (.aload_n 0, 1, 0, 0) :: T43_6
def T43_4 : List Tok := (.invokevirtual 228, 3, 57, 1315) :: T43_5
def T43_3 : List Tok := (.getfield 12, 3, 128, 364) :: T43_4
def T43_2 : List Tok := (.aload_n 1, 1, 0, 0) :: T43_3
def T43_1 : List Tok := (.getfield 12, 3, 128, 364) :: T43_2
def T43_0 : List Tok := (.aload_n 0, 1, 0, 0) :: T43_1
theorem o43_0 (hB : BytesOK) : okL 43 0 T43_0 = true := by
  have h := hB.1 43
  rw [show tk 43 = T43_0 from by decide +kernel] at h
  exact h
theorem o43_1 (hB : BytesOK) : okL 43 1 T43_1 = true := (okL_c (o43_0 hB)).2.2
theorem o43_2 (hB : BytesOK) : okL 43 4 T43_2 = true := (okL_c (o43_1 hB)).2.2
theorem o43_3 (hB : BytesOK) : okL 43 5 T43_3 = true := (okL_c (o43_2 hB)).2.2
theorem o43_4 (hB : BytesOK) : okL 43 8 T43_4 = true := (okL_c (o43_3 hB)).2.2
theorem o43_5 (hB : BytesOK) : okL 43 11 T43_5 = true := (okL_c (o43_4 hB)).2.2
theorem o43_6 (hB : BytesOK) : okL 43 12 T43_6 = true := (okL_c (o43_5 hB)).2.2
theorem o43_7 (hB : BytesOK) : okL 43 15 T43_7 = true := (okL_c (o43_6 hB)).2.2
theorem o43_8 (hB : BytesOK) : okL 43 16 T43_8 = true := (okL_c (o43_7 hB)).2.2
theorem o43_9 (hB : BytesOK) : okL 43 19 T43_9 = true := (okL_c (o43_8 hB)).2.2
theorem o43_10 (hB : BytesOK) : okL 43 22 T43_10 = true := (okL_c (o43_9 hB)).2.2
theorem o43_11 (hB : BytesOK) : okL 43 23 T43_11 = true := (okL_c (o43_10 hB)).2.2
theorem o43_12 (hB : BytesOK) : okL 43 26 T43_12 = true := (okL_c (o43_11 hB)).2.2
theorem o43_13 (hB : BytesOK) : okL 43 27 T43_13 = true := (okL_c (o43_12 hB)).2.2
theorem o43_14 (hB : BytesOK) : okL 43 30 T43_14 = true := (okL_c (o43_13 hB)).2.2
theorem o43_15 (hB : BytesOK) : okL 43 33 T43_15 = true := (okL_c (o43_14 hB)).2.2
theorem o43_16 (hB : BytesOK) : okL 43 34 T43_16 = true := (okL_c (o43_15 hB)).2.2
theorem o43_17 (hB : BytesOK) : okL 43 37 T43_17 = true := (okL_c (o43_16 hB)).2.2
theorem o43_18 (hB : BytesOK) : okL 43 38 T43_18 = true := (okL_c (o43_17 hB)).2.2
theorem o43_19 (hB : BytesOK) : okL 43 41 T43_19 = true := (okL_c (o43_18 hB)).2.2
theorem o43_20 (hB : BytesOK) : okL 43 44 T43_20 = true := (okL_c (o43_19 hB)).2.2
theorem o43_21 (hB : BytesOK) : okL 43 45 T43_21 = true := (okL_c (o43_20 hB)).2.2
theorem o43_22 (hB : BytesOK) : okL 43 46 T43_22 = true := (okL_c (o43_21 hB)).2.2
theorem o43_23 (hB : BytesOK) : okL 43 49 T43_23 = true := (okL_c (o43_22 hB)).2.2
theorem o43_24 (hB : BytesOK) : okL 43 52 T43_24 = true := (okL_c (o43_23 hB)).2.2
theorem o43_25 (hB : BytesOK) : okL 43 53 T43_25 = true := (okL_c (o43_24 hB)).2.2
theorem o43_26 (hB : BytesOK) : okL 43 54 T43_26 = true := (okL_c (o43_25 hB)).2.2
theorem o43_27 (hB : BytesOK) : okL 43 55 T43_27 = true := (okL_c (o43_26 hB)).2.2
theorem o43_28 (hB : BytesOK) : okL 43 57 T43_28 = true := (okL_c (o43_27 hB)).2.2
theorem o43_29 (hB : BytesOK) : okL 43 60 T43_29 = true := (okL_c (o43_28 hB)).2.2
theorem o43_30 (hB : BytesOK) : okL 43 61 T43_30 = true := (okL_c (o43_29 hB)).2.2
theorem o43_31 (hB : BytesOK) : okL 43 64 T43_31 = true := (okL_c (o43_30 hB)).2.2
theorem o43_32 (hB : BytesOK) : okL 43 65 T43_32 = true := (okL_c (o43_31 hB)).2.2
theorem o43_33 (hB : BytesOK) : okL 43 66 T43_33 = true := (okL_c (o43_32 hB)).2.2
theorem o43_34 (hB : BytesOK) : okL 43 67 T43_34 = true := (okL_c (o43_33 hB)).2.2
theorem o43_35 (hB : BytesOK) : okL 43 68 T43_35 = true := (okL_c (o43_34 hB)).2.2
theorem o43_36 (hB : BytesOK) : okL 43 71 T43_36 = true := (okL_c (o43_35 hB)).2.2
theorem o43_37 (hB : BytesOK) : okL 43 72 T43_37 = true := (okL_c (o43_36 hB)).2.2
theorem o43_38 (hB : BytesOK) : okL 43 73 T43_38 = true := (okL_c (o43_37 hB)).2.2
theorem o43_39 (hB : BytesOK) : okL 43 75 T43_39 = true := (okL_c (o43_38 hB)).2.2
theorem o43_40 (hB : BytesOK) : okL 43 76 T43_40 = true := (okL_c (o43_39 hB)).2.2
theorem o43_41 (hB : BytesOK) : okL 43 79 T43_41 = true := (okL_c (o43_40 hB)).2.2
theorem o43_42 (hB : BytesOK) : okL 43 81 T43_42 = true := (okL_c (o43_41 hB)).2.2
theorem o43_43 (hB : BytesOK) : okL 43 84 T43_43 = true := (okL_c (o43_42 hB)).2.2
theorem o43_44 (hB : BytesOK) : okL 43 85 T43_44 = true := (okL_c (o43_43 hB)).2.2
theorem o43_45 (hB : BytesOK) : okL 43 87 T43_45 = true := (okL_c (o43_44 hB)).2.2
theorem o43_46 (hB : BytesOK) : okL 43 90 T43_46 = true := (okL_c (o43_45 hB)).2.2
theorem o43_47 (hB : BytesOK) : okL 43 93 T43_47 = true := (okL_c (o43_46 hB)).2.2
theorem o43_48 (hB : BytesOK) : okL 43 96 T43_48 = true := (okL_c (o43_47 hB)).2.2
theorem ml43 : mml 43 = 5 := by decide +kernel
theorem mr43 : mret 43 = none := by decide +kernel
theorem mg43 : kGood 43 = true := by decide +kernel

def T49_16 : List Tok := []
def T49_15 : List Tok := (.ireturn, 1, 0, 0) :: T49_16
def T49_14 : List Tok := (.iand, 1, 0, 0) :: T49_15
def T49_13 : List Tok := (.ixor, 1, 0, 0) :: T49_14
def T49_12 : List Tok := (.iconst (-1), 1, 0, 0) :: T49_13
def T49_11 : List Tok := (.ishl, 1, 0, 0) :: T49_12
def T49_10 : List Tok := (.iload_n 1, 1, 0, 0) :: T49_11
def T49_9 : List Tok := (.iconst 1, 1, 0, 0) :: T49_10
def T49_8 : List Tok := (.iload_n 0, 1, 0, 0) :: T49_9
def T49_7 : List Tok := (.goto 10, 3, 0, 0) :: T49_8
def T49_6 : List Tok := (.ior, 1, 0, 0) :: T49_7
def T49_5 : List Tok := (.ishl, 1, 0, 0) :: T49_6
def T49_4 : List Tok := (.iload_n 1, 1, 0, 0) :: T49_5
def T49_3 : List Tok := (.iconst 1, 1, 0, 0) :: T49_4
def T49_2 : List Tok := (.iload_n 0, 1, 0, 0) :: T49_3
def T49_1 : List Tok := (.ifCond .eq 11, 3, 0, 0) :: T49_2
def T49_0 : List Tok := (.iload_n 2, 1, 0, 0) :: T49_1
theorem o49_0 (hB : BytesOK) : okL 49 0 T49_0 = true := by
  have h := hB.1 49
  rw [show tk 49 = T49_0 from by decide +kernel] at h
  exact h
theorem o49_1 (hB : BytesOK) : okL 49 1 T49_1 = true := (okL_c (o49_0 hB)).2.2
theorem o49_2 (hB : BytesOK) : okL 49 4 T49_2 = true := (okL_c (o49_1 hB)).2.2
theorem o49_3 (hB : BytesOK) : okL 49 5 T49_3 = true := (okL_c (o49_2 hB)).2.2
theorem o49_4 (hB : BytesOK) : okL 49 6 T49_4 = true := (okL_c (o49_3 hB)).2.2
theorem o49_5 (hB : BytesOK) : okL 49 7 T49_5 = true := (okL_c (o49_4 hB)).2.2
theorem o49_6 (hB : BytesOK) : okL 49 8 T49_6 = true := (okL_c (o49_5 hB)).2.2
theorem o49_7 (hB : BytesOK) : okL 49 9 T49_7 = true := (okL_c (o49_6 hB)).2.2
theorem o49_8 (hB : BytesOK) : okL 49 12 T49_8 = true := (okL_c (o49_7 hB)).2.2
theorem o49_9 (hB : BytesOK) : okL 49 13 T49_9 = true := (okL_c (o49_8 hB)).2.2
theorem o49_10 (hB : BytesOK) : okL 49 14 T49_10 = true := (okL_c (o49_9 hB)).2.2
theorem o49_11 (hB : BytesOK) : okL 49 15 T49_11 = true := (okL_c (o49_10 hB)).2.2
theorem o49_12 (hB : BytesOK) : okL 49 16 T49_12 = true := (okL_c (o49_11 hB)).2.2
theorem o49_13 (hB : BytesOK) : okL 49 17 T49_13 = true := (okL_c (o49_12 hB)).2.2
theorem o49_14 (hB : BytesOK) : okL 49 18 T49_14 = true := (okL_c (o49_13 hB)).2.2
theorem o49_15 (hB : BytesOK) : okL 49 19 T49_15 = true := (okL_c (o49_14 hB)).2.2
theorem ml49 : mml 49 = 3 := by decide +kernel
theorem mr49 : mret 49 = some .int := by decide +kernel
theorem mg49 : kGood 49 = true := by decide +kernel

def T51_34 : List Tok := []
def T51_33 : List Tok := (.ireturn, 1, 0, 0) :: T51_34
def T51_32 : List Tok := (.iconst 0, 1, 0, 0) :: T51_33
def T51_31 : List Tok := (.goto (-44), 3, 0, 0) :: T51_32
def T51_30 : List Tok := (.iinc 3 (-1), 3, 0, 0) :: T51_31
def T51_29 : List Tok := (.ireturn, 1, 0, 0) :: T51_30
def T51_28 : List Tok := (.iconst 0, 1, 0, 0) :: T51_29
def T51_27 : List Tok := (.goto 4, 3, 0, 0) :: T51_28
def T51_26 : List Tok := (.iconst 1, 1, 0, 0) :: T51_27
def T51_25 : List Tok := (.ifCond .eq 7, 3, 0, 0) :: T51_26
def T51_24 : List Tok := (.iand, 1, 0, 0) :: T51_25
def T51_23 : List Tok := (.iconst 1, 1, 0, 0) :: T51_24
def T51_22 : List Tok := (.ishr, 1, 0, 0) :: T51_23
def T51_21 : List Tok := (.iload_n 3, 1, 0, 0) :: T51_22
def T51_20 : List Tok := (.getfield 82, 3, 208, 149) :: T51_21
def T51_19 : List Tok := (.aload_n 0, 1, 0, 0) :: T51_20
def T51_18 : List Tok := (.if_icmp .gt 20, 3, 0, 0) :: T51_19
def T51_17 : List Tok := (.iload_n 2, 1, 0, 0) :: T51_18
def T51_16 : List Tok := (.iaload, 1, 0, 0) :: T51_17
def T51_15 : List Tok := (.iload_n 3, 1, 0, 0) :: T51_16
def T51_14 : List Tok := (.getfield 42, 3, 210, 151) :: T51_15
def T51_13 : List Tok := (.aload_n 0, 1, 0, 0) :: T51_14
def T51_12 : List Tok := (.if_icmp .ne 30, 3, 0, 0) :: T51_13
def T51_11 : List Tok := (.iload_n 1, 1, 0, 0) :: T51_12
def T51_10 : List Tok := (.iaload, 1, 0, 0) :: T51_11
def T51_9 : List Tok := (.iload_n 3, 1, 0, 0) :: T51_10
def T51_8 : List Tok := (.getfield 39, 3, 209, 150) :: T51_9
def T51_7 : List Tok := (.aload_n 0, 1, 0, 0) :: T51_8
def T51_6 : List Tok := (.ifCond .lt 46, 3, 0, 0) :: T51_7
def T51_5 : List Tok := (.iload_n 3, 1, 0, 0) :: T51_6
def T51_4 : List Tok := (.istore_n 3, 1, 0, 0) :: T51_5
def T51_3 : List Tok := (.isub, 1, 0, 0) :: T51_4
def T51_2 : List Tok := (.iconst 1, 1, 0, 0) :: T51_3
def T51_1 : List Tok := (.getfield 75, 3, 207, 148) :: T51_2
def T51_0 : List Tok := (.aload_n 0, 1, 0, 0) :: T51_1
theorem o51_0 (hB : BytesOK) : okL 51 0 T51_0 = true := by
  have h := hB.1 51
  rw [show tk 51 = T51_0 from by decide +kernel] at h
  exact h
theorem o51_1 (hB : BytesOK) : okL 51 1 T51_1 = true := (okL_c (o51_0 hB)).2.2
theorem o51_2 (hB : BytesOK) : okL 51 4 T51_2 = true := (okL_c (o51_1 hB)).2.2
theorem o51_3 (hB : BytesOK) : okL 51 5 T51_3 = true := (okL_c (o51_2 hB)).2.2
theorem o51_4 (hB : BytesOK) : okL 51 6 T51_4 = true := (okL_c (o51_3 hB)).2.2
theorem o51_5 (hB : BytesOK) : okL 51 7 T51_5 = true := (okL_c (o51_4 hB)).2.2
theorem o51_6 (hB : BytesOK) : okL 51 8 T51_6 = true := (okL_c (o51_5 hB)).2.2
theorem o51_7 (hB : BytesOK) : okL 51 11 T51_7 = true := (okL_c (o51_6 hB)).2.2
theorem o51_8 (hB : BytesOK) : okL 51 12 T51_8 = true := (okL_c (o51_7 hB)).2.2
theorem o51_9 (hB : BytesOK) : okL 51 15 T51_9 = true := (okL_c (o51_8 hB)).2.2
theorem o51_10 (hB : BytesOK) : okL 51 16 T51_10 = true := (okL_c (o51_9 hB)).2.2
theorem o51_11 (hB : BytesOK) : okL 51 17 T51_11 = true := (okL_c (o51_10 hB)).2.2
theorem o51_12 (hB : BytesOK) : okL 51 18 T51_12 = true := (okL_c (o51_11 hB)).2.2
theorem o51_13 (hB : BytesOK) : okL 51 21 T51_13 = true := (okL_c (o51_12 hB)).2.2
theorem o51_14 (hB : BytesOK) : okL 51 22 T51_14 = true := (okL_c (o51_13 hB)).2.2
theorem o51_15 (hB : BytesOK) : okL 51 25 T51_15 = true := (okL_c (o51_14 hB)).2.2
theorem o51_16 (hB : BytesOK) : okL 51 26 T51_16 = true := (okL_c (o51_15 hB)).2.2
theorem o51_17 (hB : BytesOK) : okL 51 27 T51_17 = true := (okL_c (o51_16 hB)).2.2
theorem o51_18 (hB : BytesOK) : okL 51 28 T51_18 = true := (okL_c (o51_17 hB)).2.2
theorem o51_19 (hB : BytesOK) : okL 51 31 T51_19 = true := (okL_c (o51_18 hB)).2.2
theorem o51_20 (hB : BytesOK) : okL 51 32 T51_20 = true := (okL_c (o51_19 hB)).2.2
theorem o51_21 (hB : BytesOK) : okL 51 35 T51_21 = true := (okL_c (o51_20 hB)).2.2
theorem o51_22 (hB : BytesOK) : okL 51 36 T51_22 = true := (okL_c (o51_21 hB)).2.2
theorem o51_23 (hB : BytesOK) : okL 51 37 T51_23 = true := (okL_c (o51_22 hB)).2.2
theorem o51_24 (hB : BytesOK) : okL 51 38 T51_24 = true := (okL_c (o51_23 hB)).2.2
theorem o51_25 (hB : BytesOK) : okL 51 39 T51_25 = true := (okL_c (o51_24 hB)).2.2
theorem o51_26 (hB : BytesOK) : okL 51 42 T51_26 = true := (okL_c (o51_25 hB)).2.2
theorem o51_27 (hB : BytesOK) : okL 51 43 T51_27 = true := (okL_c (o51_26 hB)).2.2
theorem o51_28 (hB : BytesOK) : okL 51 46 T51_28 = true := (okL_c (o51_27 hB)).2.2
theorem o51_29 (hB : BytesOK) : okL 51 47 T51_29 = true := (okL_c (o51_28 hB)).2.2
theorem o51_30 (hB : BytesOK) : okL 51 48 T51_30 = true := (okL_c (o51_29 hB)).2.2
theorem o51_31 (hB : BytesOK) : okL 51 51 T51_31 = true := (okL_c (o51_30 hB)).2.2
theorem o51_32 (hB : BytesOK) : okL 51 54 T51_32 = true := (okL_c (o51_31 hB)).2.2
theorem o51_33 (hB : BytesOK) : okL 51 55 T51_33 = true := (okL_c (o51_32 hB)).2.2
theorem ml51 : mml 51 = 4 := by decide +kernel
theorem mr51 : mret 51 = some .boolean := by decide +kernel
theorem mg51 : kGood 51 = true := by decide +kernel

def T57_88 : List Tok := []
def T57_87 : List Tok := (.return_, 1, 0, 0) :: T57_88
def T57_86 : List Tok := (.invokestatic 97, 3, 178, 300000) :: T57_87
def T57_85 : List Tok := (.getfield 42, 3, 210, 151) :: T57_86
def T57_84 : List Tok := (.aload_n 0, 1, 0, 0) :: T57_85
def T57_83 : List Tok := (.getfield 42, 3, 210, 151) :: T57_84
def T57_82 : List Tok := (.aload_n 1, 1, 0, 0) :: T57_83
def T57_81 : List Tok := (.invokestatic 97, 3, 178, 300000) :: T57_82
def T57_80 : List Tok := (.getfield 39, 3, 209, 150) :: T57_81
def T57_79 : List Tok := (.aload_n 0, 1, 0, 0) :: T57_80
def T57_78 : List Tok := (.getfield 39, 3, 209, 150) :: T57_79
def T57_77 : List Tok := (.aload_n 1, 1, 0, 0) :: T57_78
def T57_76 : List Tok := (.putfield 82, 3, 208, 149) :: T57_77
def T57_75 : List Tok := (.getfield 82, 3, 208, 149) :: T57_76
def T57_74 : List Tok := (.aload_n 1, 1, 0, 0) :: T57_75
def T57_73 : List Tok := (.aload_n 0, 1, 0, 0) :: T57_74
def T57_72 : List Tok := (.putfield 75, 3, 207, 148) :: T57_73
def T57_71 : List Tok := (.getfield 75, 3, 207, 148) :: T57_72
def T57_70 : List Tok := (.aload_n 1, 1, 0, 0) :: T57_71
def T57_69 : List Tok := (.aload_n 0, 1, 0, 0) :: T57_70
def T57_68 : List Tok := (.invokestatic 97, 3, 178, 300000) :: T57_69
def T57_67 : List Tok := (.getfield 36, 3, 206, 147) :: T57_68
def T57_66 : List Tok := (.aload_n 0, 1, 0, 0) :: T57_67
def T57_65 : List Tok := (.getfield 36, 3, 206, 147) :: T57_66
def T57_64 : List Tok := (.aload_n 1, 1, 0, 0) :: T57_65
def T57_63 : List Tok := (.invokestatic 97, 3, 178, 300000) :: T57_64
def T57_62 : List Tok := (.getfield 33, 3, 205, 146) :: T57_63
def T57_61 : List Tok := (.aload_n 0, 1, 0, 0) :: T57_62
def T57_60 : List Tok := (.getfield 33, 3, 205, 146) :: T57_61
def T57_59 : List Tok := (.aload_n 1, 1, 0, 0) :: T57_60
def T57_58 : List Tok := (.putfield 65, 3, 204, 145) :: T57_59
def T57_57 : List Tok := (.getfield 65, 3, 204, 145) :: T57_58
def T57_56 : List Tok := (.aload_n 1, 1, 0, 0) :: T57_57
def T57_55 : List Tok := (.aload_n 0, 1, 0, 0) :: T57_56
def T57_54 : List Tok := (.putfield 59, 3, 203, 143) :: T57_55
def T57_53 : List Tok := (.getfield 59, 3, 203, 143) :: T57_54
def T57_52 : List Tok := (.aload_n 1, 1, 0, 0) :: T57_53
def T57_51 : List Tok := (.aload_n 0, 1, 0, 0) :: T57_52
def T57_50 : List Tok := (.putfield 88, 3, 202, 142) :: T57_51
def T57_49 : List Tok := (.getfield 88, 3, 202, 142) :: T57_50
def T57_48 : List Tok := (.aload_n 1, 1, 0, 0) :: T57_49
def T57_47 : List Tok := (.aload_n 0, 1, 0, 0) :: T57_48
def T57_46 : List Tok := (.putfield 85, 3, 201, 141) :: T57_47
def T57_45 : List Tok := (.getfield 85, 3, 201, 141) :: T57_46
def T57_44 : List Tok := (.aload_n 1, 1, 0, 0) :: T57_45
def T57_43 : List Tok := (.aload_n 0, 1, 0, 0) :: T57_44
def T57_42 : List Tok := (.invokestatic 97, 3, 178, 300000) :: T57_43
def T57_41 : List Tok := (.getfield 30, 3, 200, 139) :: T57_42
def T57_40 : List Tok := (.aload_n 0, 1, 0, 0) :: T57_41
def T57_39 : List Tok := (.getfield 30, 3, 200, 139) :: T57_40
def T57_38 : List Tok := (.aload_n 1, 1, 0, 0) :: T57_39
def T57_37 : List Tok := (.invokestatic 97, 3, 178, 300000) :: T57_38
def T57_36 : List Tok := (.getfield 27, 3, 199, 136) :: T57_37
def T57_35 : List Tok := (.aload_n 0, 1, 0, 0) :: T57_36
def T57_34 : List Tok := (.getfield 27, 3, 199, 136) :: T57_35
def T57_33 : List Tok := (.aload_n 1, 1, 0, 0) :: T57_34
def T57_32 : List Tok := (.invokestatic 97, 3, 178, 300000) :: T57_33
def T57_31 : List Tok := (.getfield 24, 3, 198, 135) :: T57_32
def T57_30 : List Tok := (.aload_n 0, 1, 0, 0) :: T57_31
def T57_29 : List Tok := (.getfield 24, 3, 198, 135) :: T57_30
def T57_28 : List Tok := (.aload_n 1, 1, 0, 0) :: T57_29
def T57_27 : List Tok := (.invokestatic 97, 3, 178, 300000) :: T57_28
def T57_26 : List Tok := (.getfield 21, 3, 197, 134) :: T57_27
def T57_25 : List Tok := (.aload_n 0, 1, 0, 0) :: T57_26
def T57_24 : List Tok := (.getfield 21, 3, 197, 134) :: T57_25
def T57_23 : List Tok := (.aload_n 1, 1, 0, 0) :: T57_24
def T57_22 : List Tok := (.invokestatic 97, 3, 178, 300000) :: T57_23
def T57_21 : List Tok := (.getfield 18, 3, 196, 132) :: T57_22
def T57_20 : List Tok := (.aload_n 0, 1, 0, 0) :: T57_21
def T57_19 : List Tok := (.getfield 18, 3, 196, 132) :: T57_20
def T57_18 : List Tok := (.aload_n 1, 1, 0, 0) :: T57_19
def T57_17 : List Tok := (.invokestatic 97, 3, 178, 300000) :: T57_18
def T57_16 : List Tok := (.getfield 15, 3, 195, 129) :: T57_17
def T57_15 : List Tok := (.aload_n 0, 1, 0, 0) :: T57_16
def T57_14 : List Tok := (.getfield 15, 3, 195, 129) :: T57_15
def T57_13 : List Tok := (.aload_n 1, 1, 0, 0) :: T57_14
def T57_12 : List Tok := (.invokestatic 97, 3, 178, 300000) :: T57_13
def T57_11 : List Tok := (.getfield 9, 3, 194, 127) :: T57_12
def T57_10 : List Tok := (.aload_n 0, 1, 0, 0) :: T57_11
def T57_9 : List Tok := (.getfield 9, 3, 194, 127) :: T57_10
def T57_8 : List Tok := (.aload_n 1, 1, 0, 0) :: T57_9
def T57_7 : List Tok := (.putfield 45, 3, 193, 124) :: T57_8
def T57_6 : List Tok := (.getfield 45, 3, 193, 124) :: T57_7
def T57_5 : List Tok := (.aload_n 1, 1, 0, 0) :: T57_6
def T57_4 : List Tok := (.aload_n 0, 1, 0, 0) :: T57_5
def T57_3 : List Tok := (.putfield 62, 3, 192, 122) :: T57_4
def T57_2 : List Tok := (.getfield 62, 3, 192, 122) :: T57_3
def T57_1 : List Tok := (.aload_n 1, 1, 0, 0) :: T57_2
def T57_0 : List Tok := (.aload_n 0, 1, 0, 0) :: T57_1
theorem o57_0 (hB : BytesOK) : okL 57 0 T57_0 = true := by
  have h := hB.1 57
  rw [show tk 57 = T57_0 from by decide +kernel] at h
  exact h
theorem o57_1 (hB : BytesOK) : okL 57 1 T57_1 = true := (okL_c (o57_0 hB)).2.2
theorem o57_2 (hB : BytesOK) : okL 57 2 T57_2 = true := (okL_c (o57_1 hB)).2.2
theorem o57_3 (hB : BytesOK) : okL 57 5 T57_3 = true := (okL_c (o57_2 hB)).2.2
theorem o57_4 (hB : BytesOK) : okL 57 8 T57_4 = true := (okL_c (o57_3 hB)).2.2
theorem o57_5 (hB : BytesOK) : okL 57 9 T57_5 = true := (okL_c (o57_4 hB)).2.2
theorem o57_6 (hB : BytesOK) : okL 57 10 T57_6 = true := (okL_c (o57_5 hB)).2.2
theorem o57_7 (hB : BytesOK) : okL 57 13 T57_7 = true := (okL_c (o57_6 hB)).2.2
theorem o57_8 (hB : BytesOK) : okL 57 16 T57_8 = true := (okL_c (o57_7 hB)).2.2
theorem o57_9 (hB : BytesOK) : okL 57 17 T57_9 = true := (okL_c (o57_8 hB)).2.2
theorem o57_10 (hB : BytesOK) : okL 57 20 T57_10 = true := (okL_c (o57_9 hB)).2.2
theorem o57_11 (hB : BytesOK) : okL 57 21 T57_11 = true := (okL_c (o57_10 hB)).2.2
theorem o57_12 (hB : BytesOK) : okL 57 24 T57_12 = true := (okL_c (o57_11 hB)).2.2
theorem o57_13 (hB : BytesOK) : okL 57 27 T57_13 = true := (okL_c (o57_12 hB)).2.2
theorem o57_14 (hB : BytesOK) : okL 57 28 T57_14 = true := (okL_c (o57_13 hB)).2.2
theorem o57_15 (hB : BytesOK) : okL 57 31 T57_15 = true := (okL_c (o57_14 hB)).2.2
theorem o57_16 (hB : BytesOK) : okL 57 32 T57_16 = true := (okL_c (o57_15 hB)).2.2
theorem o57_17 (hB : BytesOK) : okL 57 35 T57_17 = true := (okL_c (o57_16 hB)).2.2
theorem o57_18 (hB : BytesOK) : okL 57 38 T57_18 = true := (okL_c (o57_17 hB)).2.2
theorem o57_19 (hB : BytesOK) : okL 57 39 T57_19 = true := (okL_c (o57_18 hB)).2.2
theorem o57_20 (hB : BytesOK) : okL 57 42 T57_20 = true := (okL_c (o57_19 hB)).2.2
theorem o57_21 (hB : BytesOK) : okL 57 43 T57_21 = true := (okL_c (o57_20 hB)).2.2
theorem o57_22 (hB : BytesOK) : okL 57 46 T57_22 = true := (okL_c (o57_21 hB)).2.2
theorem o57_23 (hB : BytesOK) : okL 57 49 T57_23 = true := (okL_c (o57_22 hB)).2.2
theorem o57_24 (hB : BytesOK) : okL 57 50 T57_24 = true := (okL_c (o57_23 hB)).2.2
theorem o57_25 (hB : BytesOK) : okL 57 53 T57_25 = true := (okL_c (o57_24 hB)).2.2
theorem o57_26 (hB : BytesOK) : okL 57 54 T57_26 = true := (okL_c (o57_25 hB)).2.2
theorem o57_27 (hB : BytesOK) : okL 57 57 T57_27 = true := (okL_c (o57_26 hB)).2.2
theorem o57_28 (hB : BytesOK) : okL 57 60 T57_28 = true := (okL_c (o57_27 hB)).2.2
theorem o57_29 (hB : BytesOK) : okL 57 61 T57_29 = true := (okL_c (o57_28 hB)).2.2
theorem o57_30 (hB : BytesOK) : okL 57 64 T57_30 = true := (okL_c (o57_29 hB)).2.2
theorem o57_31 (hB : BytesOK) : okL 57 65 T57_31 = true := (okL_c (o57_30 hB)).2.2
theorem o57_32 (hB : BytesOK) : okL 57 68 T57_32 = true := (okL_c (o57_31 hB)).2.2
theorem o57_33 (hB : BytesOK) : okL 57 71 T57_33 = true := (okL_c (o57_32 hB)).2.2
theorem o57_34 (hB : BytesOK) : okL 57 72 T57_34 = true := (okL_c (o57_33 hB)).2.2
theorem o57_35 (hB : BytesOK) : okL 57 75 T57_35 = true := (okL_c (o57_34 hB)).2.2
theorem o57_36 (hB : BytesOK) : okL 57 76 T57_36 = true := (okL_c (o57_35 hB)).2.2
theorem o57_37 (hB : BytesOK) : okL 57 79 T57_37 = true := (okL_c (o57_36 hB)).2.2
theorem o57_38 (hB : BytesOK) : okL 57 82 T57_38 = true := (okL_c (o57_37 hB)).2.2
theorem o57_39 (hB : BytesOK) : okL 57 83 T57_39 = true := (okL_c (o57_38 hB)).2.2
theorem o57_40 (hB : BytesOK) : okL 57 86 T57_40 = true := (okL_c (o57_39 hB)).2.2
theorem o57_41 (hB : BytesOK) : okL 57 87 T57_41 = true := (okL_c (o57_40 hB)).2.2
theorem o57_42 (hB : BytesOK) : okL 57 90 T57_42 = true := (okL_c (o57_41 hB)).2.2
theorem o57_43 (hB : BytesOK) : okL 57 93 T57_43 = true := (okL_c (o57_42 hB)).2.2
theorem o57_44 (hB : BytesOK) : okL 57 94 T57_44 = true := (okL_c (o57_43 hB)).2.2
theorem o57_45 (hB : BytesOK) : okL 57 95 T57_45 = true := (okL_c (o57_44 hB)).2.2
theorem o57_46 (hB : BytesOK) : okL 57 98 T57_46 = true := (okL_c (o57_45 hB)).2.2
theorem o57_47 (hB : BytesOK) : okL 57 101 T57_47 = true := (okL_c (o57_46 hB)).2.2
theorem o57_48 (hB : BytesOK) : okL 57 102 T57_48 = true := (okL_c (o57_47 hB)).2.2
theorem o57_49 (hB : BytesOK) : okL 57 103 T57_49 = true := (okL_c (o57_48 hB)).2.2
theorem o57_50 (hB : BytesOK) : okL 57 106 T57_50 = true := (okL_c (o57_49 hB)).2.2
theorem o57_51 (hB : BytesOK) : okL 57 109 T57_51 = true := (okL_c (o57_50 hB)).2.2
theorem o57_52 (hB : BytesOK) : okL 57 110 T57_52 = true := (okL_c (o57_51 hB)).2.2
theorem o57_53 (hB : BytesOK) : okL 57 111 T57_53 = true := (okL_c (o57_52 hB)).2.2
theorem o57_54 (hB : BytesOK) : okL 57 114 T57_54 = true := (okL_c (o57_53 hB)).2.2
theorem o57_55 (hB : BytesOK) : okL 57 117 T57_55 = true := (okL_c (o57_54 hB)).2.2
theorem o57_56 (hB : BytesOK) : okL 57 118 T57_56 = true := (okL_c (o57_55 hB)).2.2
theorem o57_57 (hB : BytesOK) : okL 57 119 T57_57 = true := (okL_c (o57_56 hB)).2.2
theorem o57_58 (hB : BytesOK) : okL 57 122 T57_58 = true := (okL_c (o57_57 hB)).2.2
theorem o57_59 (hB : BytesOK) : okL 57 125 T57_59 = true := (okL_c (o57_58 hB)).2.2
theorem o57_60 (hB : BytesOK) : okL 57 126 T57_60 = true := (okL_c (o57_59 hB)).2.2
theorem o57_61 (hB : BytesOK) : okL 57 129 T57_61 = true := (okL_c (o57_60 hB)).2.2
theorem o57_62 (hB : BytesOK) : okL 57 130 T57_62 = true := (okL_c (o57_61 hB)).2.2
theorem o57_63 (hB : BytesOK) : okL 57 133 T57_63 = true := (okL_c (o57_62 hB)).2.2
theorem o57_64 (hB : BytesOK) : okL 57 136 T57_64 = true := (okL_c (o57_63 hB)).2.2
theorem o57_65 (hB : BytesOK) : okL 57 137 T57_65 = true := (okL_c (o57_64 hB)).2.2
theorem o57_66 (hB : BytesOK) : okL 57 140 T57_66 = true := (okL_c (o57_65 hB)).2.2
theorem o57_67 (hB : BytesOK) : okL 57 141 T57_67 = true := (okL_c (o57_66 hB)).2.2
theorem o57_68 (hB : BytesOK) : okL 57 144 T57_68 = true := (okL_c (o57_67 hB)).2.2
theorem o57_69 (hB : BytesOK) : okL 57 147 T57_69 = true := (okL_c (o57_68 hB)).2.2
theorem o57_70 (hB : BytesOK) : okL 57 148 T57_70 = true := (okL_c (o57_69 hB)).2.2
theorem o57_71 (hB : BytesOK) : okL 57 149 T57_71 = true := (okL_c (o57_70 hB)).2.2
theorem o57_72 (hB : BytesOK) : okL 57 152 T57_72 = true := (okL_c (o57_71 hB)).2.2
theorem o57_73 (hB : BytesOK) : okL 57 155 T57_73 = true := (okL_c (o57_72 hB)).2.2
theorem o57_74 (hB : BytesOK) : okL 57 156 T57_74 = true := (okL_c (o57_73 hB)).2.2
theorem o57_75 (hB : BytesOK) : okL 57 157 T57_75 = true := (okL_c (o57_74 hB)).2.2
theorem o57_76 (hB : BytesOK) : okL 57 160 T57_76 = true := (okL_c (o57_75 hB)).2.2
theorem o57_77 (hB : BytesOK) : okL 57 163 T57_77 = true := (okL_c (o57_76 hB)).2.2
theorem o57_78 (hB : BytesOK) : okL 57 164 T57_78 = true := (okL_c (o57_77 hB)).2.2
theorem o57_79 (hB : BytesOK) : okL 57 167 T57_79 = true := (okL_c (o57_78 hB)).2.2
theorem o57_80 (hB : BytesOK) : okL 57 168 T57_80 = true := (okL_c (o57_79 hB)).2.2
theorem o57_81 (hB : BytesOK) : okL 57 171 T57_81 = true := (okL_c (o57_80 hB)).2.2
theorem o57_82 (hB : BytesOK) : okL 57 174 T57_82 = true := (okL_c (o57_81 hB)).2.2
theorem o57_83 (hB : BytesOK) : okL 57 175 T57_83 = true := (okL_c (o57_82 hB)).2.2
theorem o57_84 (hB : BytesOK) : okL 57 178 T57_84 = true := (okL_c (o57_83 hB)).2.2
theorem o57_85 (hB : BytesOK) : okL 57 179 T57_85 = true := (okL_c (o57_84 hB)).2.2
theorem o57_86 (hB : BytesOK) : okL 57 182 T57_86 = true := (okL_c (o57_85 hB)).2.2
theorem o57_87 (hB : BytesOK) : okL 57 185 T57_87 = true := (okL_c (o57_86 hB)).2.2
theorem ml57 : mml 57 = 2 := by decide +kernel
theorem mr57 : mret 57 = none := by decide +kernel
theorem mg57 : kGood 57 = true := by decide +kernel

def T75_42 : List Tok := []
def T75_41 : List Tok := (.ireturn, 1, 0, 0) :: T75_42
def T75_40 : List Tok := (.iload 4, 2, 0, 0) :: T75_41
def T75_39 : List Tok := (.iastore, 1, 0, 0) :: T75_40
def T75_38 : List Tok := (.iload_n 2, 1, 0, 0) :: T75_39
def T75_37 : List Tok := (.iload_n 1, 1, 0, 0) :: T75_38
def T75_36 : List Tok := (.getfield 15, 3, 385, 282) :: T75_37
def T75_35 : List Tok := (.aload_n 0, 1, 0, 0) :: T75_36
def T75_34 : List Tok := (.istore 4, 2, 0, 0) :: T75_35
def T75_33 : List Tok := (.iaload, 1, 0, 0) :: T75_34
def T75_32 : List Tok := (.iload_n 1, 1, 0, 0) :: T75_33
def T75_31 : List Tok := (.getfield 15, 3, 385, 282) :: T75_32
def T75_30 : List Tok := (.aload_n 0, 1, 0, 0) :: T75_31
def T75_29 : List Tok := (.goto (-25), 3, 0, 0) :: T75_30
def T75_28 : List Tok := (.iinc 4 1, 3, 0, 0) :: T75_29
def T75_27 : List Tok := (.istore_n 3, 1, 0, 0) :: T75_28
def T75_26 : List Tok := (.idiv, 1, 0, 0) :: T75_27
def T75_25 : List Tok := (.bipush 10, 2, 0, 0) :: T75_26
def T75_24 : List Tok := (.iload_n 3, 1, 0, 0) :: T75_25
def T75_23 : List Tok := (.ireturn, 1, 0, 0) :: T75_24
def T75_22 : List Tok := (.iconst (-1), 1, 0, 0) :: T75_23
def T75_21 : List Tok := (.if_icmp .le 5, 3, 0, 0) :: T75_22
def T75_20 : List Tok := (.iconst 3, 1, 0, 0) :: T75_21
def T75_19 : List Tok := (.irem, 1, 0, 0) :: T75_20
def T75_18 : List Tok := (.bipush 10, 2, 0, 0) :: T75_19
def T75_17 : List Tok := (.iload_n 3, 1, 0, 0) :: T75_18
def T75_16 : List Tok := (.if_icmp .ge 24, 3, 0, 0) :: T75_17
def T75_15 : List Tok := (.bipush 6, 2, 0, 0) :: T75_16
def T75_14 : List Tok := (.iload 4, 2, 0, 0) :: T75_15
def T75_13 : List Tok := (.istore 4, 2, 0, 0) :: T75_14
def T75_12 : List Tok := (.iconst 0, 1, 0, 0) :: T75_13
def T75_11 : List Tok := (.istore_n 3, 1, 0, 0) :: T75_12
def T75_10 : List Tok := (.iload_n 2, 1, 0, 0) :: T75_11
def T75_9 : List Tok := (.ireturn, 1, 0, 0) :: T75_10
def T75_8 : List Tok := (.iconst (-1), 1, 0, 0) :: T75_9
def T75_7 : List Tok := (.if_icmp .le 5, 3, 0, 0) :: T75_8
def T75_6 : List Tok := (.ldc 25, 2, 7, 1114) :: T75_7
def T75_5 : List Tok := (.iload_n 2, 1, 0, 0) :: T75_6
def T75_4 : List Tok := (.ifCond .lt 9, 3, 0, 0) :: T75_5
def T75_3 : List Tok := (.iload_n 2, 1, 0, 0) :: T75_4
def T75_2 : List Tok := (.ifCond .eq 13, 3, 0, 0) :: T75_3
def T75_1 : List Tok := (.invokestatic 21, 3, 173, 300000) :: T75_2
def T75_0 : List Tok := (.iload_n 1, 1, 0, 0) :: T75_1
theorem o75_0 (hB : BytesOK) : okL 75 0 T75_0 = true := by
  have h := hB.1 75
  rw [show tk 75 = T75_0 from by decide +kernel] at h
  exact h
theorem o75_1 (hB : BytesOK) : okL 75 1 T75_1 = true := (okL_c (o75_0 hB)).2.2
theorem o75_2 (hB : BytesOK) : okL 75 4 T75_2 = true := (okL_c (o75_1 hB)).2.2
theorem o75_3 (hB : BytesOK) : okL 75 7 T75_3 = true := (okL_c (o75_2 hB)).2.2
theorem o75_4 (hB : BytesOK) : okL 75 8 T75_4 = true := (okL_c (o75_3 hB)).2.2
theorem o75_5 (hB : BytesOK) : okL 75 11 T75_5 = true := (okL_c (o75_4 hB)).2.2
theorem o75_6 (hB : BytesOK) : okL 75 12 T75_6 = true := (okL_c (o75_5 hB)).2.2
theorem o75_7 (hB : BytesOK) : okL 75 14 T75_7 = true := (okL_c (o75_6 hB)).2.2
theorem o75_8 (hB : BytesOK) : okL 75 17 T75_8 = true := (okL_c (o75_7 hB)).2.2
theorem o75_9 (hB : BytesOK) : okL 75 18 T75_9 = true := (okL_c (o75_8 hB)).2.2
theorem o75_10 (hB : BytesOK) : okL 75 19 T75_10 = true := (okL_c (o75_9 hB)).2.2
theorem o75_11 (hB : BytesOK) : okL 75 20 T75_11 = true := (okL_c (o75_10 hB)).2.2
theorem o75_12 (hB : BytesOK) : okL 75 21 T75_12 = true := (okL_c (o75_11 hB)).2.2
theorem o75_13 (hB : BytesOK) : okL 75 22 T75_13 = true := (okL_c (o75_12 hB)).2.2
theorem o75_14 (hB : BytesOK) : okL 75 24 T75_14 = true := (okL_c (o75_13 hB)).2.2
theorem o75_15 (hB : BytesOK) : okL 75 26 T75_15 = true := (okL_c (o75_14 hB)).2.2
theorem o75_16 (hB : BytesOK) : okL 75 28 T75_16 = true := (okL_c (o75_15 hB)).2.2
theorem o75_17 (hB : BytesOK) : okL 75 31 T75_17 = true := (okL_c (o75_16 hB)).2.2
theorem o75_18 (hB : BytesOK) : okL 75 32 T75_18 = true := (okL_c (o75_17 hB)).2.2
theorem o75_19 (hB : BytesOK) : okL 75 34 T75_19 = true := (okL_c (o75_18 hB)).2.2
theorem o75_20 (hB : BytesOK) : okL 75 35 T75_20 = true := (okL_c (o75_19 hB)).2.2
theorem o75_21 (hB : BytesOK) : okL 75 36 T75_21 = true := (okL_c (o75_20 hB)).2.2
theorem o75_22 (hB : BytesOK) : okL 75 39 T75_22 = true := (okL_c (o75_21 hB)).2.2
theorem o75_23 (hB : BytesOK) : okL 75 40 T75_23 = true := (okL_c (o75_22 hB)).2.2
theorem o75_24 (hB : BytesOK) : okL 75 41 T75_24 = true := (okL_c (o75_23 hB)).2.2
theorem o75_25 (hB : BytesOK) : okL 75 42 T75_25 = true := (okL_c (o75_24 hB)).2.2
theorem o75_26 (hB : BytesOK) : okL 75 44 T75_26 = true := (okL_c (o75_25 hB)).2.2
theorem o75_27 (hB : BytesOK) : okL 75 45 T75_27 = true := (okL_c (o75_26 hB)).2.2
theorem o75_28 (hB : BytesOK) : okL 75 46 T75_28 = true := (okL_c (o75_27 hB)).2.2
theorem o75_29 (hB : BytesOK) : okL 75 49 T75_29 = true := (okL_c (o75_28 hB)).2.2
theorem o75_30 (hB : BytesOK) : okL 75 52 T75_30 = true := (okL_c (o75_29 hB)).2.2
theorem o75_31 (hB : BytesOK) : okL 75 53 T75_31 = true := (okL_c (o75_30 hB)).2.2
theorem o75_32 (hB : BytesOK) : okL 75 56 T75_32 = true := (okL_c (o75_31 hB)).2.2
theorem o75_33 (hB : BytesOK) : okL 75 57 T75_33 = true := (okL_c (o75_32 hB)).2.2
theorem o75_34 (hB : BytesOK) : okL 75 58 T75_34 = true := (okL_c (o75_33 hB)).2.2
theorem o75_35 (hB : BytesOK) : okL 75 60 T75_35 = true := (okL_c (o75_34 hB)).2.2
theorem o75_36 (hB : BytesOK) : okL 75 61 T75_36 = true := (okL_c (o75_35 hB)).2.2
theorem o75_37 (hB : BytesOK) : okL 75 64 T75_37 = true := (okL_c (o75_36 hB)).2.2
theorem o75_38 (hB : BytesOK) : okL 75 65 T75_38 = true := (okL_c (o75_37 hB)).2.2
theorem o75_39 (hB : BytesOK) : okL 75 66 T75_39 = true := (okL_c (o75_38 hB)).2.2
theorem o75_40 (hB : BytesOK) : okL 75 67 T75_40 = true := (okL_c (o75_39 hB)).2.2
theorem o75_41 (hB : BytesOK) : okL 75 69 T75_41 = true := (okL_c (o75_40 hB)).2.2
theorem ml75 : mml 75 = 5 := by decide +kernel
theorem mr75 : mret 75 = some .int := by decide +kernel
theorem mg75 : kGood 75 = true := by decide +kernel

def T76_13 : List Tok := []
def T76_12 : List Tok := (.ireturn, 1, 0, 0) :: T76_13
def T76_11 : List Tok := (.iconst 0, 1, 0, 0) :: T76_12
def T76_10 : List Tok := (.goto 4, 3, 0, 0) :: T76_11
def T76_9 : List Tok := (.iconst 1, 1, 0, 0) :: T76_10
def T76_8 : List Tok := (.ifCond .eq 7, 3, 0, 0) :: T76_9
def T76_7 : List Tok := (.iand, 1, 0, 0) :: T76_8
def T76_6 : List Tok := (.iconst 1, 1, 0, 0) :: T76_7
def T76_5 : List Tok := (.ishr, 1, 0, 0) :: T76_6
def T76_4 : List Tok := (.iload_n 2, 1, 0, 0) :: T76_5
def T76_3 : List Tok := (.iaload, 1, 0, 0) :: T76_4
def T76_2 : List Tok := (.iload_n 1, 1, 0, 0) :: T76_3
def T76_1 : List Tok := (.getfield 18, 3, 386, 284) :: T76_2
def T76_0 : List Tok := (.aload_n 0, 1, 0, 0) :: T76_1
theorem o76_0 (hB : BytesOK) : okL 76 0 T76_0 = true := by
  have h := hB.1 76
  rw [show tk 76 = T76_0 from by decide +kernel] at h
  exact h
theorem o76_1 (hB : BytesOK) : okL 76 1 T76_1 = true := (okL_c (o76_0 hB)).2.2
theorem o76_2 (hB : BytesOK) : okL 76 4 T76_2 = true := (okL_c (o76_1 hB)).2.2
theorem o76_3 (hB : BytesOK) : okL 76 5 T76_3 = true := (okL_c (o76_2 hB)).2.2
theorem o76_4 (hB : BytesOK) : okL 76 6 T76_4 = true := (okL_c (o76_3 hB)).2.2
theorem o76_5 (hB : BytesOK) : okL 76 7 T76_5 = true := (okL_c (o76_4 hB)).2.2
theorem o76_6 (hB : BytesOK) : okL 76 8 T76_6 = true := (okL_c (o76_5 hB)).2.2
theorem o76_7 (hB : BytesOK) : okL 76 9 T76_7 = true := (okL_c (o76_6 hB)).2.2
theorem o76_8 (hB : BytesOK) : okL 76 10 T76_8 = true := (okL_c (o76_7 hB)).2.2
theorem o76_9 (hB : BytesOK) : okL 76 13 T76_9 = true := (okL_c (o76_8 hB)).2.2
theorem o76_10 (hB : BytesOK) : okL 76 14 T76_10 = true := (okL_c (o76_9 hB)).2.2
theorem o76_11 (hB : BytesOK) : okL 76 17 T76_11 = true := (okL_c (o76_10 hB)).2.2
theorem o76_12 (hB : BytesOK) : okL 76 18 T76_12 = true := (okL_c (o76_11 hB)).2.2
theorem ml76 : mml 76 = 3 := by decide +kernel
theorem mr76 : mret 76 = some .boolean := by decide +kernel
theorem mg76 : kGood 76 = true := by decide +kernel

def T77_30 : List Tok := []
def T77_29 : List Tok := (.ireturn, 1, 0, 0) :: T77_30
def T77_28 : List Tok := (.iload 4, 2, 0, 0) :: T77_29
def T77_27 : List Tok := (.iastore, 1, 0, 0) :: T77_28
def T77_26 : List Tok := (.invokestatic 33, 3, 49, 1128) :: T77_27
def T77_25 : List Tok := (.iload_n 3, 1, 0, 0) :: T77_26
def T77_24 : List Tok := (.iload_n 2, 1, 0, 0) :: T77_25
def T77_23 : List Tok := (.iaload, 1, 0, 0) :: T77_24
def T77_22 : List Tok := (.iload_n 1, 1, 0, 0) :: T77_23
def T77_21 : List Tok := (.getfield 18, 3, 386, 284) :: T77_22
def T77_20 : List Tok := (.aload_n 0, 1, 0, 0) :: T77_21
def T77_19 : List Tok := (.iload_n 1, 1, 0, 0) :: T77_20
def T77_18 : List Tok := (.getfield 18, 3, 386, 284) :: T77_19
def T77_17 : List Tok := (.aload_n 0, 1, 0, 0) :: T77_18
def T77_16 : List Tok := (.istore 4, 2, 0, 0) :: T77_17
def T77_15 : List Tok := (.iconst 0, 1, 0, 0) :: T77_16
def T77_14 : List Tok := (.goto 4, 3, 0, 0) :: T77_15
def T77_13 : List Tok := (.iconst 1, 1, 0, 0) :: T77_14
def T77_12 : List Tok := (.ifCond .eq 7, 3, 0, 0) :: T77_13
def T77_11 : List Tok := (.invokevirtual 29, 3, 76, 1124) :: T77_12
def T77_10 : List Tok := (.iload_n 2, 1, 0, 0) :: T77_11
def T77_9 : List Tok := (.iload_n 1, 1, 0, 0) :: T77_10
def T77_8 : List Tok := (.aload_n 0, 1, 0, 0) :: T77_9
def T77_7 : List Tok := (.ireturn, 1, 0, 0) :: T77_8
def T77_6 : List Tok := (.iconst (-1), 1, 0, 0) :: T77_7
def T77_5 : List Tok := (.ifCond .ne 5, 3, 0, 0) :: T77_6
def T77_4 : List Tok := (.invokestatic 21, 3, 173, 300000) :: T77_5
def T77_3 : List Tok := (.iload_n 2, 1, 0, 0) :: T77_4
def T77_2 : List Tok := (.ifCond .eq 10, 3, 0, 0) :: T77_3
def T77_1 : List Tok := (.invokestatic 26, 3, 172, 300000) :: T77_2
def T77_0 : List Tok := (.iload_n 1, 1, 0, 0) :: T77_1
theorem o77_0 (hB : BytesOK) : okL 77 0 T77_0 = true := by
  have h := hB.1 77
  rw [show tk 77 = T77_0 from by decide +kernel] at h
  exact h
theorem o77_1 (hB : BytesOK) : okL 77 1 T77_1 = true := (okL_c (o77_0 hB)).2.2
theorem o77_2 (hB : BytesOK) : okL 77 4 T77_2 = true := (okL_c (o77_1 hB)).2.2
theorem o77_3 (hB : BytesOK) : okL 77 7 T77_3 = true := (okL_c (o77_2 hB)).2.2
theorem o77_4 (hB : BytesOK) : okL 77 8 T77_4 = true := (okL_c (o77_3 hB)).2.2
theorem o77_5 (hB : BytesOK) : okL 77 11 T77_5 = true := (okL_c (o77_4 hB)).2.2
theorem o77_6 (hB : BytesOK) : okL 77 14 T77_6 = true := (okL_c (o77_5 hB)).2.2
theorem o77_7 (hB : BytesOK) : okL 77 15 T77_7 = true := (okL_c (o77_6 hB)).2.2
theorem o77_8 (hB : BytesOK) : okL 77 16 T77_8 = true := (okL_c (o77_7 hB)).2.2
theorem o77_9 (hB : BytesOK) : okL 77 17 T77_9 = true := (okL_c (o77_8 hB)).2.2
theorem o77_10 (hB : BytesOK) : okL 77 18 T77_10 = true := (okL_c (o77_9 hB)).2.2
theorem o77_11 (hB : BytesOK) : okL 77 19 T77_11 = true := (okL_c (o77_10 hB)).2.2
theorem o77_12 (hB : BytesOK) : okL 77 22 T77_12 = true := (okL_c (o77_11 hB)).2.2
theorem o77_13 (hB : BytesOK) : okL 77 25 T77_13 = true := (okL_c (o77_12 hB)).2.2
theorem o77_14 (hB : BytesOK) : okL 77 26 T77_14 = true := (okL_c (o77_13 hB)).2.2
theorem o77_15 (hB : BytesOK) : okL 77 29 T77_15 = true := (okL_c (o77_14 hB)).2.2
theorem o77_16 (hB : BytesOK) : okL 77 30 T77_16 = true := (okL_c (o77_15 hB)).2.2
theorem o77_17 (hB : BytesOK) : okL 77 32 T77_17 = true := (okL_c (o77_16 hB)).2.2
theorem o77_18 (hB : BytesOK) : okL 77 33 T77_18 = true := (okL_c (o77_17 hB)).2.2
theorem o77_19 (hB : BytesOK) : okL 77 36 T77_19 = true := (okL_c (o77_18 hB)).2.2
theorem o77_20 (hB : BytesOK) : okL 77 37 T77_20 = true := (okL_c (o77_19 hB)).2.2
theorem o77_21 (hB : BytesOK) : okL 77 38 T77_21 = true := (okL_c (o77_20 hB)).2.2
theorem o77_22 (hB : BytesOK) : okL 77 41 T77_22 = true := (okL_c (o77_21 hB)).2.2
theorem o77_23 (hB : BytesOK) : okL 77 42 T77_23 = true := (okL_c (o77_22 hB)).2.2
theorem o77_24 (hB : BytesOK) : okL 77 43 T77_24 = true := (okL_c (o77_23 hB)).2.2
theorem o77_25 (hB : BytesOK) : okL 77 44 T77_25 = true := (okL_c (o77_24 hB)).2.2
theorem o77_26 (hB : BytesOK) : okL 77 45 T77_26 = true := (okL_c (o77_25 hB)).2.2
theorem o77_27 (hB : BytesOK) : okL 77 48 T77_27 = true := (okL_c (o77_26 hB)).2.2
theorem o77_28 (hB : BytesOK) : okL 77 49 T77_28 = true := (okL_c (o77_27 hB)).2.2
theorem o77_29 (hB : BytesOK) : okL 77 51 T77_29 = true := (okL_c (o77_28 hB)).2.2
theorem ml77 : mml 77 = 5 := by decide +kernel
theorem mr77 : mret 77 = some .int := by decide +kernel
theorem mg77 : kGood 77 = true := by decide +kernel

def T79_28 : List Tok := []
def T79_27 : List Tok := (.return_, 1, 0, 0) :: T79_28
def T79_26 : List Tok := (.putfield 46, 3, 389, 289) :: T79_27
def T79_25 : List Tok := (.getfield 46, 3, 389, 289) :: T79_26
def T79_24 : List Tok := (.aload_n 1, 1, 0, 0) :: T79_25
def T79_23 : List Tok := (.aload_n 0, 1, 0, 0) :: T79_24
def T79_22 : List Tok := (.putfield 43, 3, 388, 287) :: T79_23
def T79_21 : List Tok := (.getfield 43, 3, 388, 287) :: T79_22
def T79_20 : List Tok := (.aload_n 1, 1, 0, 0) :: T79_21
def T79_19 : List Tok := (.aload_n 0, 1, 0, 0) :: T79_20
def T79_18 : List Tok := (.putfield 39, 3, 387, 285) :: T79_19
def T79_17 : List Tok := (.getfield 39, 3, 387, 285) :: T79_18
def T79_16 : List Tok := (.aload_n 1, 1, 0, 0) :: T79_17
def T79_15 : List Tok := (.aload_n 0, 1, 0, 0) :: T79_16
def T79_14 : List Tok := (.invokestatic 49, 3, 178, 300000) :: T79_15
def T79_13 : List Tok := (.getfield 18, 3, 386, 284) :: T79_14
def T79_12 : List Tok := (.aload_n 0, 1, 0, 0) :: T79_13
def T79_11 : List Tok := (.getfield 18, 3, 386, 284) :: T79_12
def T79_10 : List Tok := (.aload_n 1, 1, 0, 0) :: T79_11
def T79_9 : List Tok := (.invokestatic 49, 3, 178, 300000) :: T79_10
def T79_8 : List Tok := (.getfield 15, 3, 385, 282) :: T79_9
def T79_7 : List Tok := (.aload_n 0, 1, 0, 0) :: T79_8
def T79_6 : List Tok := (.getfield 15, 3, 385, 282) :: T79_7
def T79_5 : List Tok := (.aload_n 1, 1, 0, 0) :: T79_6
def T79_4 : List Tok := (.invokestatic 49, 3, 178, 300000) :: T79_5
def T79_3 : List Tok := (.getfield 9, 3, 384, 279) :: T79_4
def T79_2 : List Tok := (.aload_n 0, 1, 0, 0) :: T79_3
def T79_1 : List Tok := (.getfield 9, 3, 384, 279) :: T79_2
def T79_0 : List Tok := (.aload_n 1, 1, 0, 0) :: T79_1
theorem o79_0 (hB : BytesOK) : okL 79 0 T79_0 = true := by
  have h := hB.1 79
  rw [show tk 79 = T79_0 from by decide +kernel] at h
  exact h
theorem o79_1 (hB : BytesOK) : okL 79 1 T79_1 = true := (okL_c (o79_0 hB)).2.2
theorem o79_2 (hB : BytesOK) : okL 79 4 T79_2 = true := (okL_c (o79_1 hB)).2.2
theorem o79_3 (hB : BytesOK) : okL 79 5 T79_3 = true := (okL_c (o79_2 hB)).2.2
theorem o79_4 (hB : BytesOK) : okL 79 8 T79_4 = true := (okL_c (o79_3 hB)).2.2
theorem o79_5 (hB : BytesOK) : okL 79 11 T79_5 = true := (okL_c (o79_4 hB)).2.2
theorem o79_6 (hB : BytesOK) : okL 79 12 T79_6 = true := (okL_c (o79_5 hB)).2.2
theorem o79_7 (hB : BytesOK) : okL 79 15 T79_7 = true := (okL_c (o79_6 hB)).2.2
theorem o79_8 (hB : BytesOK) : okL 79 16 T79_8 = true := (okL_c (o79_7 hB)).2.2
theorem o79_9 (hB : BytesOK) : okL 79 19 T79_9 = true := (okL_c (o79_8 hB)).2.2
theorem o79_10 (hB : BytesOK) : okL 79 22 T79_10 = true := (okL_c (o79_9 hB)).2.2
theorem o79_11 (hB : BytesOK) : okL 79 23 T79_11 = true := (okL_c (o79_10 hB)).2.2
theorem o79_12 (hB : BytesOK) : okL 79 26 T79_12 = true := (okL_c (o79_11 hB)).2.2
theorem o79_13 (hB : BytesOK) : okL 79 27 T79_13 = true := (okL_c (o79_12 hB)).2.2
theorem o79_14 (hB : BytesOK) : okL 79 30 T79_14 = true := (okL_c (o79_13 hB)).2.2
theorem o79_15 (hB : BytesOK) : okL 79 33 T79_15 = true := (okL_c (o79_14 hB)).2.2
theorem o79_16 (hB : BytesOK) : okL 79 34 T79_16 = true := (okL_c (o79_15 hB)).2.2
theorem o79_17 (hB : BytesOK) : okL 79 35 T79_17 = true := (okL_c (o79_16 hB)).2.2
theorem o79_18 (hB : BytesOK) : okL 79 38 T79_18 = true := (okL_c (o79_17 hB)).2.2
theorem o79_19 (hB : BytesOK) : okL 79 41 T79_19 = true := (okL_c (o79_18 hB)).2.2
theorem o79_20 (hB : BytesOK) : okL 79 42 T79_20 = true := (okL_c (o79_19 hB)).2.2
theorem o79_21 (hB : BytesOK) : okL 79 43 T79_21 = true := (okL_c (o79_20 hB)).2.2
theorem o79_22 (hB : BytesOK) : okL 79 46 T79_22 = true := (okL_c (o79_21 hB)).2.2
theorem o79_23 (hB : BytesOK) : okL 79 49 T79_23 = true := (okL_c (o79_22 hB)).2.2
theorem o79_24 (hB : BytesOK) : okL 79 50 T79_24 = true := (okL_c (o79_23 hB)).2.2
theorem o79_25 (hB : BytesOK) : okL 79 51 T79_25 = true := (okL_c (o79_24 hB)).2.2
theorem o79_26 (hB : BytesOK) : okL 79 54 T79_26 = true := (okL_c (o79_25 hB)).2.2
theorem o79_27 (hB : BytesOK) : okL 79 57 T79_27 = true := (okL_c (o79_26 hB)).2.2
theorem ml79 : mml 79 = 2 := by decide +kernel
theorem mr79 : mret 79 = none := by decide +kernel
theorem mg79 : kGood 79 = true := by decide +kernel

def T121_81 : List Tok := []
def T121_80 : List Tok := (.return_, 1, 0, 0) :: T121_81
def T121_79 : List Tok := (.invokestatic 113, 3, 178, 300000) :: T121_80
def T121_78 : List Tok := (.getfield 45, 3, 592, 237) :: T121_79
def T121_77 : List Tok := (.aload_n 0, 1, 0, 0) :: T121_78
def T121_76 : List Tok := (.getfield 45, 3, 592, 237) :: T121_77
def T121_75 : List Tok := (.aload_n 1, 1, 0, 0) :: T121_76
def T121_74 : List Tok := (.invokestatic 113, 3, 178, 300000) :: T121_75
def T121_73 : List Tok := (.getfield 42, 3, 591, 236) :: T121_74
def T121_72 : List Tok := (.aload_n 0, 1, 0, 0) :: T121_73
def T121_71 : List Tok := (.getfield 42, 3, 591, 236) :: T121_72
def T121_70 : List Tok := (.aload_n 1, 1, 0, 0) :: T121_71
def T121_69 : List Tok := (.putfield 98, 3, 590, 234) :: T121_70
def T121_68 : List Tok := (.getfield 98, 3, 590, 234) :: T121_69
def T121_67 : List Tok := (.aload_n 1, 1, 0, 0) :: T121_68
def T121_66 : List Tok := (.aload_n 0, 1, 0, 0) :: T121_67
def T121_65 : List Tok := (.invokestatic 113, 3, 178, 300000) :: T121_66
def T121_64 : List Tok := (.getfield 39, 3, 589, 233) :: T121_65
def T121_63 : List Tok := (.aload_n 0, 1, 0, 0) :: T121_64
def T121_62 : List Tok := (.getfield 39, 3, 589, 233) :: T121_63
def T121_61 : List Tok := (.aload_n 1, 1, 0, 0) :: T121_62
def T121_60 : List Tok := (.invokestatic 113, 3, 178, 300000) :: T121_61
def T121_59 : List Tok := (.getfield 36, 3, 588, 232) :: T121_60
def T121_58 : List Tok := (.aload_n 0, 1, 0, 0) :: T121_59
def T121_57 : List Tok := (.getfield 36, 3, 588, 232) :: T121_58
def T121_56 : List Tok := (.aload_n 1, 1, 0, 0) :: T121_57
def T121_55 : List Tok := (.invokestatic 113, 3, 178, 300000) :: T121_56
def T121_54 : List Tok := (.getfield 33, 3, 587, 231) :: T121_55
def T121_53 : List Tok := (.aload_n 0, 1, 0, 0) :: T121_54
def T121_52 : List Tok := (.getfield 33, 3, 587, 231) :: T121_53
def T121_51 : List Tok := (.aload_n 1, 1, 0, 0) :: T121_52
def T121_50 : List Tok := (.putfield 92, 3, 586, 229) :: T121_51
def T121_49 : List Tok := (.getfield 92, 3, 586, 229) :: T121_50
def T121_48 : List Tok := (.aload_n 1, 1, 0, 0) :: T121_49
def T121_47 : List Tok := (.aload_n 0, 1, 0, 0) :: T121_48
def T121_46 : List Tok := (.invokestatic 113, 3, 178, 300000) :: T121_47
def T121_45 : List Tok := (.getfield 30, 3, 585, 228) :: T121_46
def T121_44 : List Tok := (.aload_n 0, 1, 0, 0) :: T121_45
def T121_43 : List Tok := (.getfield 30, 3, 585, 228) :: T121_44
def T121_42 : List Tok := (.aload_n 1, 1, 0, 0) :: T121_43
def T121_41 : List Tok := (.invokestatic 113, 3, 178, 300000) :: T121_42
def T121_40 : List Tok := (.getfield 27, 3, 584, 227) :: T121_41
def T121_39 : List Tok := (.aload_n 0, 1, 0, 0) :: T121_40
def T121_38 : List Tok := (.getfield 27, 3, 584, 227) :: T121_39
def T121_37 : List Tok := (.aload_n 1, 1, 0, 0) :: T121_38
def T121_36 : List Tok := (.invokestatic 113, 3, 178, 300000) :: T121_37
def T121_35 : List Tok := (.getfield 24, 3, 583, 225) :: T121_36
def T121_34 : List Tok := (.aload_n 0, 1, 0, 0) :: T121_35
def T121_33 : List Tok := (.getfield 24, 3, 583, 225) :: T121_34
def T121_32 : List Tok := (.aload_n 1, 1, 0, 0) :: T121_33
def T121_31 : List Tok := (.invokestatic 113, 3, 178, 300000) :: T121_32
def T121_30 : List Tok := (.getfield 21, 3, 582, 224) :: T121_31
def T121_29 : List Tok := (.aload_n 0, 1, 0, 0) :: T121_30
def T121_28 : List Tok := (.getfield 21, 3, 582, 224) :: T121_29
def T121_27 : List Tok := (.aload_n 1, 1, 0, 0) :: T121_28
def T121_26 : List Tok := (.putfield 62, 3, 581, 223) :: T121_27
def T121_25 : List Tok := (.getfield 62, 3, 581, 223) :: T121_26
def T121_24 : List Tok := (.aload_n 1, 1, 0, 0) :: T121_25
def T121_23 : List Tok := (.aload_n 0, 1, 0, 0) :: T121_24
def T121_22 : List Tok := (.putfield 59, 3, 580, 221) :: T121_23
def T121_21 : List Tok := (.getfield 59, 3, 580, 221) :: T121_22
def T121_20 : List Tok := (.aload_n 1, 1, 0, 0) :: T121_21
def T121_19 : List Tok := (.aload_n 0, 1, 0, 0) :: T121_20
def T121_18 : List Tok := (.invokestatic 113, 3, 178, 300000) :: T121_19
def T121_17 : List Tok := (.getfield 18, 3, 579, 220) :: T121_18
def T121_16 : List Tok := (.aload_n 0, 1, 0, 0) :: T121_17
def T121_15 : List Tok := (.getfield 18, 3, 579, 220) :: T121_16
def T121_14 : List Tok := (.aload_n 1, 1, 0, 0) :: T121_15
def T121_13 : List Tok := (.invokestatic 113, 3, 178, 300000) :: T121_14
def T121_12 : List Tok := (.getfield 15, 3, 578, 218) :: T121_13
def T121_11 : List Tok := (.aload_n 0, 1, 0, 0) :: T121_12
def T121_10 : List Tok := (.getfield 15, 3, 578, 218) :: T121_11
def T121_9 : List Tok := (.aload_n 1, 1, 0, 0) :: T121_10
def T121_8 : List Tok := (.invokestatic 113, 3, 178, 300000) :: T121_9
def T121_7 : List Tok := (.getfield 9, 3, 577, 217) :: T121_8
def T121_6 : List Tok := (.aload_n 0, 1, 0, 0) :: T121_7
def T121_5 : List Tok := (.getfield 9, 3, 577, 217) :: T121_6
def T121_4 : List Tok := (.aload_n 1, 1, 0, 0) :: T121_5
def T121_3 : List Tok := (.putfield 48, 3, 576, 215) :: T121_4
def T121_2 : List Tok := (.getfield 48, 3, 576, 215) :: T121_3
def T121_1 : List Tok := (.aload_n 1, 1, 0, 0) :: T121_2
def T121_0 : List Tok := (.aload_n 0, 1, 0, 0) :: T121_1
theorem o121_0 (hB : BytesOK) : okL 121 0 T121_0 = true := by
  have h := hB.1 121
  rw [show tk 121 = T121_0 from by decide +kernel] at h
  exact h
theorem o121_1 (hB : BytesOK) : okL 121 1 T121_1 = true := (okL_c (o121_0 hB)).2.2
theorem o121_2 (hB : BytesOK) : okL 121 2 T121_2 = true := (okL_c (o121_1 hB)).2.2
theorem o121_3 (hB : BytesOK) : okL 121 5 T121_3 = true := (okL_c (o121_2 hB)).2.2
theorem o121_4 (hB : BytesOK) : okL 121 8 T121_4 = true := (okL_c (o121_3 hB)).2.2
theorem o121_5 (hB : BytesOK) : okL 121 9 T121_5 = true := (okL_c (o121_4 hB)).2.2
theorem o121_6 (hB : BytesOK) : okL 121 12 T121_6 = true := (okL_c (o121_5 hB)).2.2
theorem o121_7 (hB : BytesOK) : okL 121 13 T121_7 = true := (okL_c (o121_6 hB)).2.2
theorem o121_8 (hB : BytesOK) : okL 121 16 T121_8 = true := (okL_c (o121_7 hB)).2.2
theorem o121_9 (hB : BytesOK) : okL 121 19 T121_9 = true := (okL_c (o121_8 hB)).2.2
theorem o121_10 (hB : BytesOK) : okL 121 20 T121_10 = true := (okL_c (o121_9 hB)).2.2
theorem o121_11 (hB : BytesOK) : okL 121 23 T121_11 = true := (okL_c (o121_10 hB)).2.2
theorem o121_12 (hB : BytesOK) : okL 121 24 T121_12 = true := (okL_c (o121_11 hB)).2.2
theorem o121_13 (hB : BytesOK) : okL 121 27 T121_13 = true := (okL_c (o121_12 hB)).2.2
theorem o121_14 (hB : BytesOK) : okL 121 30 T121_14 = true := (okL_c (o121_13 hB)).2.2
theorem o121_15 (hB : BytesOK) : okL 121 31 T121_15 = true := (okL_c (o121_14 hB)).2.2
theorem o121_16 (hB : BytesOK) : okL 121 34 T121_16 = true := (okL_c (o121_15 hB)).2.2
theorem o121_17 (hB : BytesOK) : okL 121 35 T121_17 = true := (okL_c (o121_16 hB)).2.2
theorem o121_18 (hB : BytesOK) : okL 121 38 T121_18 = true := (okL_c (o121_17 hB)).2.2
theorem o121_19 (hB : BytesOK) : okL 121 41 T121_19 = true := (okL_c (o121_18 hB)).2.2
theorem o121_20 (hB : BytesOK) : okL 121 42 T121_20 = true := (okL_c (o121_19 hB)).2.2
theorem o121_21 (hB : BytesOK) : okL 121 43 T121_21 = true := (okL_c (o121_20 hB)).2.2
theorem o121_22 (hB : BytesOK) : okL 121 46 T121_22 = true := (okL_c (o121_21 hB)).2.2
theorem o121_23 (hB : BytesOK) : okL 121 49 T121_23 = true := (okL_c (o121_22 hB)).2.2
theorem o121_24 (hB : BytesOK) : okL 121 50 T121_24 = true := (okL_c (o121_23 hB)).2.2
theorem o121_25 (hB : BytesOK) : okL 121 51 T121_25 = true := (okL_c (o121_24 hB)).2.2
theorem o121_26 (hB : BytesOK) : okL 121 54 T121_26 = true := (okL_c (o121_25 hB)).2.2
theorem o121_27 (hB : BytesOK) : okL 121 57 T121_27 = true := (okL_c (o121_26 hB)).2.2
theorem o121_28 (hB : BytesOK) : okL 121 58 T121_28 = true := (okL_c (o121_27 hB)).2.2
theorem o121_29 (hB : BytesOK) : okL 121 61 T121_29 = true := (okL_c (o121_28 hB)).2.2
theorem o121_30 (hB : BytesOK) : okL 121 62 T121_30 = true := (okL_c (o121_29 hB)).2.2
theorem o121_31 (hB : BytesOK) : okL 121 65 T121_31 = true := (okL_c (o121_30 hB)).2.2
theorem o121_32 (hB : BytesOK) : okL 121 68 T121_32 = true := (okL_c (o121_31 hB)).2.2
theorem o121_33 (hB : BytesOK) : okL 121 69 T121_33 = true := (okL_c (o121_32 hB)).2.2
theorem o121_34 (hB : BytesOK) : okL 121 72 T121_34 = true := (okL_c (o121_33 hB)).2.2
theorem o121_35 (hB : BytesOK) : okL 121 73 T121_35 = true := (okL_c (o121_34 hB)).2.2
theorem o121_36 (hB : BytesOK) : okL 121 76 T121_36 = true := (okL_c (o121_35 hB)).2.2
theorem o121_37 (hB : BytesOK) : okL 121 79 T121_37 = true := (okL_c (o121_36 hB)).2.2
theorem o121_38 (hB : BytesOK) : okL 121 80 T121_38 = true := (okL_c (o121_37 hB)).2.2
theorem o121_39 (hB : BytesOK) : okL 121 83 T121_39 = true := (okL_c (o121_38 hB)).2.2
theorem o121_40 (hB : BytesOK) : okL 121 84 T121_40 = true := (okL_c (o121_39 hB)).2.2
theorem o121_41 (hB : BytesOK) : okL 121 87 T121_41 = true := (okL_c (o121_40 hB)).2.2
theorem o121_42 (hB : BytesOK) : okL 121 90 T121_42 = true := (okL_c (o121_41 hB)).2.2
theorem o121_43 (hB : BytesOK) : okL 121 91 T121_43 = true := (okL_c (o121_42 hB)).2.2
theorem o121_44 (hB : BytesOK) : okL 121 94 T121_44 = true := (okL_c (o121_43 hB)).2.2
theorem o121_45 (hB : BytesOK) : okL 121 95 T121_45 = true := (okL_c (o121_44 hB)).2.2
theorem o121_46 (hB : BytesOK) : okL 121 98 T121_46 = true := (okL_c (o121_45 hB)).2.2
theorem o121_47 (hB : BytesOK) : okL 121 101 T121_47 = true := (okL_c (o121_46 hB)).2.2
theorem o121_48 (hB : BytesOK) : okL 121 102 T121_48 = true := (okL_c (o121_47 hB)).2.2
theorem o121_49 (hB : BytesOK) : okL 121 103 T121_49 = true := (okL_c (o121_48 hB)).2.2
theorem o121_50 (hB : BytesOK) : okL 121 106 T121_50 = true := (okL_c (o121_49 hB)).2.2
theorem o121_51 (hB : BytesOK) : okL 121 109 T121_51 = true := (okL_c (o121_50 hB)).2.2
theorem o121_52 (hB : BytesOK) : okL 121 110 T121_52 = true := (okL_c (o121_51 hB)).2.2
theorem o121_53 (hB : BytesOK) : okL 121 113 T121_53 = true := (okL_c (o121_52 hB)).2.2
theorem o121_54 (hB : BytesOK) : okL 121 114 T121_54 = true := (okL_c (o121_53 hB)).2.2
theorem o121_55 (hB : BytesOK) : okL 121 117 T121_55 = true := (okL_c (o121_54 hB)).2.2
theorem o121_56 (hB : BytesOK) : okL 121 120 T121_56 = true := (okL_c (o121_55 hB)).2.2
theorem o121_57 (hB : BytesOK) : okL 121 121 T121_57 = true := (okL_c (o121_56 hB)).2.2
theorem o121_58 (hB : BytesOK) : okL 121 124 T121_58 = true := (okL_c (o121_57 hB)).2.2
theorem o121_59 (hB : BytesOK) : okL 121 125 T121_59 = true := (okL_c (o121_58 hB)).2.2
theorem o121_60 (hB : BytesOK) : okL 121 128 T121_60 = true := (okL_c (o121_59 hB)).2.2
theorem o121_61 (hB : BytesOK) : okL 121 131 T121_61 = true := (okL_c (o121_60 hB)).2.2
theorem o121_62 (hB : BytesOK) : okL 121 132 T121_62 = true := (okL_c (o121_61 hB)).2.2
theorem o121_63 (hB : BytesOK) : okL 121 135 T121_63 = true := (okL_c (o121_62 hB)).2.2
theorem o121_64 (hB : BytesOK) : okL 121 136 T121_64 = true := (okL_c (o121_63 hB)).2.2
theorem o121_65 (hB : BytesOK) : okL 121 139 T121_65 = true := (okL_c (o121_64 hB)).2.2
theorem o121_66 (hB : BytesOK) : okL 121 142 T121_66 = true := (okL_c (o121_65 hB)).2.2
theorem o121_67 (hB : BytesOK) : okL 121 143 T121_67 = true := (okL_c (o121_66 hB)).2.2
theorem o121_68 (hB : BytesOK) : okL 121 144 T121_68 = true := (okL_c (o121_67 hB)).2.2
theorem o121_69 (hB : BytesOK) : okL 121 147 T121_69 = true := (okL_c (o121_68 hB)).2.2
theorem o121_70 (hB : BytesOK) : okL 121 150 T121_70 = true := (okL_c (o121_69 hB)).2.2
theorem o121_71 (hB : BytesOK) : okL 121 151 T121_71 = true := (okL_c (o121_70 hB)).2.2
theorem o121_72 (hB : BytesOK) : okL 121 154 T121_72 = true := (okL_c (o121_71 hB)).2.2
theorem o121_73 (hB : BytesOK) : okL 121 155 T121_73 = true := (okL_c (o121_72 hB)).2.2
theorem o121_74 (hB : BytesOK) : okL 121 158 T121_74 = true := (okL_c (o121_73 hB)).2.2
theorem o121_75 (hB : BytesOK) : okL 121 161 T121_75 = true := (okL_c (o121_74 hB)).2.2
theorem o121_76 (hB : BytesOK) : okL 121 162 T121_76 = true := (okL_c (o121_75 hB)).2.2
theorem o121_77 (hB : BytesOK) : okL 121 165 T121_77 = true := (okL_c (o121_76 hB)).2.2
theorem o121_78 (hB : BytesOK) : okL 121 166 T121_78 = true := (okL_c (o121_77 hB)).2.2
theorem o121_79 (hB : BytesOK) : okL 121 169 T121_79 = true := (okL_c (o121_78 hB)).2.2
theorem o121_80 (hB : BytesOK) : okL 121 172 T121_80 = true := (okL_c (o121_79 hB)).2.2
theorem ml121 : mml 121 = 2 := by decide +kernel
theorem mr121 : mret 121 = none := by decide +kernel
theorem mg121 : kGood 121 = true := by decide +kernel

def T155_7 : List Tok := []
def T155_6 : List Tok := (.ireturn, 1, 0, 0) :: T155_7
def T155_5 : List Tok := (.invokevirtual 236, 3, 75, 1109) :: T155_6
def T155_4 : List Tok := (.iload_n 2, 1, 0, 0) :: T155_5
def T155_3 : List Tok := (.iload_n 1, 1, 0, 0) :: T155_4
def T155_2 : List Tok := (.getfield 223, 3, 131, 372) :: T155_3
def T155_1 : List Tok := (.getfield 10, 3, 640, 497) :: T155_2
def T155_0 : List Tok := (.aload_n 0, 1, 0, 0) :: T155_1
theorem o155_0 (hB : BytesOK) : okL 155 0 T155_0 = true := by
  have h := hB.1 155
  rw [show tk 155 = T155_0 from by decide +kernel] at h
  exact h
theorem o155_1 (hB : BytesOK) : okL 155 1 T155_1 = true := (okL_c (o155_0 hB)).2.2
theorem o155_2 (hB : BytesOK) : okL 155 4 T155_2 = true := (okL_c (o155_1 hB)).2.2
theorem o155_3 (hB : BytesOK) : okL 155 7 T155_3 = true := (okL_c (o155_2 hB)).2.2
theorem o155_4 (hB : BytesOK) : okL 155 8 T155_4 = true := (okL_c (o155_3 hB)).2.2
theorem o155_5 (hB : BytesOK) : okL 155 9 T155_5 = true := (okL_c (o155_4 hB)).2.2
theorem o155_6 (hB : BytesOK) : okL 155 12 T155_6 = true := (okL_c (o155_5 hB)).2.2
theorem ml155 : mml 155 = 3 := by decide +kernel
theorem mr155 : mret 155 = some .int := by decide +kernel
theorem mg155 : kGood 155 = true := by decide +kernel

def T156_8 : List Tok := []
def T156_7 : List Tok := (.ireturn, 1, 0, 0) :: T156_8
def T156_6 : List Tok := (.invokevirtual 239, 3, 77, 1119) :: T156_7
def T156_5 : List Tok := (.iload_n 3, 1, 0, 0) :: T156_6
def T156_4 : List Tok := (.iload_n 2, 1, 0, 0) :: T156_5
def T156_3 : List Tok := (.iload_n 1, 1, 0, 0) :: T156_4
def T156_2 : List Tok := (.getfield 223, 3, 131, 372) :: T156_3
def T156_1 : List Tok := (.getfield 10, 3, 640, 497) :: T156_2
def T156_0 : List Tok := (.aload_n 0, 1, 0, 0) :: T156_1
theorem o156_0 (hB : BytesOK) : okL 156 0 T156_0 = true := by
  have h := hB.1 156
  rw [show tk 156 = T156_0 from by decide +kernel] at h
  exact h
theorem o156_1 (hB : BytesOK) : okL 156 1 T156_1 = true := (okL_c (o156_0 hB)).2.2
theorem o156_2 (hB : BytesOK) : okL 156 4 T156_2 = true := (okL_c (o156_1 hB)).2.2
theorem o156_3 (hB : BytesOK) : okL 156 7 T156_3 = true := (okL_c (o156_2 hB)).2.2
theorem o156_4 (hB : BytesOK) : okL 156 8 T156_4 = true := (okL_c (o156_3 hB)).2.2
theorem o156_5 (hB : BytesOK) : okL 156 9 T156_5 = true := (okL_c (o156_4 hB)).2.2
theorem o156_6 (hB : BytesOK) : okL 156 10 T156_6 = true := (okL_c (o156_5 hB)).2.2
theorem o156_7 (hB : BytesOK) : okL 156 13 T156_7 = true := (okL_c (o156_6 hB)).2.2
theorem ml156 : mml 156 = 4 := by decide +kernel
theorem mr156 : mret 156 = some .int := by decide +kernel
theorem mg156 : kGood 156 = true := by decide +kernel

def T169_10 : List Tok := []
def T169_9 : List Tok := (.ireturn, 1, 0, 0) :: T169_10
def T169_8 : List Tok := (.iconst 1, 1, 0, 0) :: T169_9
def T169_7 : List Tok := (.putfield 338, 3, 642, 499) :: T169_8
def T169_6 : List Tok := (.iconst 1, 1, 0, 0) :: T169_7
def T169_5 : List Tok := (.aload_n 0, 1, 0, 0) :: T169_6
def T169_4 : List Tok := (.invokevirtual 335, 3, 43, 1311) :: T169_5
def T169_3 : List Tok := (.getfield 10, 3, 640, 497) :: T169_4
def T169_2 : List Tok := (.aload_n 0, 1, 0, 0) :: T169_3
def T169_1 : List Tok := (.getfield 16, 3, 641, 498) :: T169_2
def T169_0 : List Tok := (.aload_n 0, 1, 0, 0) :: T169_1
theorem o169_0 (hB : BytesOK) : okL 169 0 T169_0 = true := by
  have h := hB.1 169
  rw [show tk 169 = T169_0 from by decide +kernel] at h
  exact h
theorem o169_1 (hB : BytesOK) : okL 169 1 T169_1 = true := (okL_c (o169_0 hB)).2.2
theorem o169_2 (hB : BytesOK) : okL 169 4 T169_2 = true := (okL_c (o169_1 hB)).2.2
theorem o169_3 (hB : BytesOK) : okL 169 5 T169_3 = true := (okL_c (o169_2 hB)).2.2
theorem o169_4 (hB : BytesOK) : okL 169 8 T169_4 = true := (okL_c (o169_3 hB)).2.2
theorem o169_5 (hB : BytesOK) : okL 169 11 T169_5 = true := (okL_c (o169_4 hB)).2.2
theorem o169_6 (hB : BytesOK) : okL 169 12 T169_6 = true := (okL_c (o169_5 hB)).2.2
theorem o169_7 (hB : BytesOK) : okL 169 13 T169_7 = true := (okL_c (o169_6 hB)).2.2
theorem o169_8 (hB : BytesOK) : okL 169 16 T169_8 = true := (okL_c (o169_7 hB)).2.2
theorem o169_9 (hB : BytesOK) : okL 169 17 T169_9 = true := (okL_c (o169_8 hB)).2.2
theorem ml169 : mml 169 = 1 := by decide +kernel
theorem mr169 : mret 169 = some .int := by decide +kernel
theorem mg169 : kGood 169 = true := by decide +kernel

def T170_12 : List Tok := []
def T170_11 : List Tok := (.ireturn, 1, 0, 0) :: T170_12
def T170_10 : List Tok := (.iconst 1, 1, 0, 0) :: T170_11
def T170_9 : List Tok := (.invokevirtual 335, 3, 43, 1311) :: T170_10
def T170_8 : List Tok := (.getfield 16, 3, 641, 498) :: T170_9
def T170_7 : List Tok := (.aload_n 0, 1, 0, 0) :: T170_8
def T170_6 : List Tok := (.getfield 10, 3, 640, 497) :: T170_7
def T170_5 : List Tok := (.aload_n 0, 1, 0, 0) :: T170_6
def T170_4 : List Tok := (.ireturn, 1, 0, 0) :: T170_5
def T170_3 : List Tok := (.bipush (-3), 2, 0, 0) :: T170_4
def T170_2 : List Tok := (.ifCond .ne 6, 3, 0, 0) :: T170_3
def T170_1 : List Tok := (.getfield 338, 3, 642, 499) :: T170_2
def T170_0 : List Tok := (.aload_n 0, 1, 0, 0) :: T170_1
theorem o170_0 (hB : BytesOK) : okL 170 0 T170_0 = true := by
  have h := hB.1 170
  rw [show tk 170 = T170_0 from by decide +kernel] at h
  exact h
theorem o170_1 (hB : BytesOK) : okL 170 1 T170_1 = true := (okL_c (o170_0 hB)).2.2
theorem o170_2 (hB : BytesOK) : okL 170 4 T170_2 = true := (okL_c (o170_1 hB)).2.2
theorem o170_3 (hB : BytesOK) : okL 170 7 T170_3 = true := (okL_c (o170_2 hB)).2.2
theorem o170_4 (hB : BytesOK) : okL 170 9 T170_4 = true := (okL_c (o170_3 hB)).2.2
theorem o170_5 (hB : BytesOK) : okL 170 10 T170_5 = true := (okL_c (o170_4 hB)).2.2
theorem o170_6 (hB : BytesOK) : okL 170 11 T170_6 = true := (okL_c (o170_5 hB)).2.2
theorem o170_7 (hB : BytesOK) : okL 170 14 T170_7 = true := (okL_c (o170_6 hB)).2.2
theorem o170_8 (hB : BytesOK) : okL 170 15 T170_8 = true := (okL_c (o170_7 hB)).2.2
theorem o170_9 (hB : BytesOK) : okL 170 18 T170_9 = true := (okL_c (o170_8 hB)).2.2
theorem o170_10 (hB : BytesOK) : okL 170 21 T170_10 = true := (okL_c (o170_9 hB)).2.2
theorem o170_11 (hB : BytesOK) : okL 170 22 T170_11 = true := (okL_c (o170_10 hB)).2.2
theorem ml170 : mml 170 = 1 := by decide +kernel
theorem mr170 : mret 170 = some .int := by decide +kernel
theorem mg170 : kGood 170 = true := by decide +kernel

def T171_9 : List Tok := []
def T171_8 : List Tok := (.ireturn, 1, 0, 0) :: T171_9
def T171_7 : List Tok := (.iconst 0, 1, 0, 0) :: T171_8
def T171_6 : List Tok := (.goto 4, 3, 0, 0) :: T171_7
def T171_5 : List Tok := (.iconst 1, 1, 0, 0) :: T171_6
def T171_4 : List Tok := (.if_icmp .ge 7, 3, 0, 0) :: T171_5
def T171_3 : List Tok := (.sipush 240, 3, 0, 0) :: T171_4
def T171_2 : List Tok := (.iload_n 0, 1, 0, 0) :: T171_3
def T171_1 : List Tok := (.ifCond .lt 14, 3, 0, 0) :: T171_2
def T171_0 : List Tok := (.iload_n 0, 1, 0, 0) :: T171_1
theorem o171_0 (hB : BytesOK) : okL 171 0 T171_0 = true := by
  have h := hB.1 171
  rw [show tk 171 = T171_0 from by decide +kernel] at h
  exact h
theorem o171_1 (hB : BytesOK) : okL 171 1 T171_1 = true := (okL_c (o171_0 hB)).2.2
theorem o171_2 (hB : BytesOK) : okL 171 4 T171_2 = true := (okL_c (o171_1 hB)).2.2
theorem o171_3 (hB : BytesOK) : okL 171 5 T171_3 = true := (okL_c (o171_2 hB)).2.2
theorem o171_4 (hB : BytesOK) : okL 171 8 T171_4 = true := (okL_c (o171_3 hB)).2.2
theorem o171_5 (hB : BytesOK) : okL 171 11 T171_5 = true := (okL_c (o171_4 hB)).2.2
theorem o171_6 (hB : BytesOK) : okL 171 12 T171_6 = true := (okL_c (o171_5 hB)).2.2
theorem o171_7 (hB : BytesOK) : okL 171 15 T171_7 = true := (okL_c (o171_6 hB)).2.2
theorem o171_8 (hB : BytesOK) : okL 171 16 T171_8 = true := (okL_c (o171_7 hB)).2.2
theorem ml171 : mml 171 = 1 := by decide +kernel
theorem mr171 : mret 171 = some .boolean := by decide +kernel
theorem mg171 : kGood 171 = true := by decide +kernel

def T172_9 : List Tok := []
def T172_8 : List Tok := (.ireturn, 1, 0, 0) :: T172_9
def T172_7 : List Tok := (.iconst 0, 1, 0, 0) :: T172_8
def T172_6 : List Tok := (.goto 4, 3, 0, 0) :: T172_7
def T172_5 : List Tok := (.iconst 1, 1, 0, 0) :: T172_6
def T172_4 : List Tok := (.if_icmp .ge 7, 3, 0, 0) :: T172_5
def T172_3 : List Tok := (.bipush 8, 2, 0, 0) :: T172_4
def T172_2 : List Tok := (.iload_n 0, 1, 0, 0) :: T172_3
def T172_1 : List Tok := (.ifCond .lt 13, 3, 0, 0) :: T172_2
def T172_0 : List Tok := (.iload_n 0, 1, 0, 0) :: T172_1
theorem o172_0 (hB : BytesOK) : okL 172 0 T172_0 = true := by
  have h := hB.1 172
  rw [show tk 172 = T172_0 from by decide +kernel] at h
  exact h
theorem o172_1 (hB : BytesOK) : okL 172 1 T172_1 = true := (okL_c (o172_0 hB)).2.2
theorem o172_2 (hB : BytesOK) : okL 172 4 T172_2 = true := (okL_c (o172_1 hB)).2.2
theorem o172_3 (hB : BytesOK) : okL 172 5 T172_3 = true := (okL_c (o172_2 hB)).2.2
theorem o172_4 (hB : BytesOK) : okL 172 7 T172_4 = true := (okL_c (o172_3 hB)).2.2
theorem o172_5 (hB : BytesOK) : okL 172 10 T172_5 = true := (okL_c (o172_4 hB)).2.2
theorem o172_6 (hB : BytesOK) : okL 172 11 T172_6 = true := (okL_c (o172_5 hB)).2.2
theorem o172_7 (hB : BytesOK) : okL 172 14 T172_7 = true := (okL_c (o172_6 hB)).2.2
theorem o172_8 (hB : BytesOK) : okL 172 15 T172_8 = true := (okL_c (o172_7 hB)).2.2
theorem ml172 : mml 172 = 1 := by decide +kernel
theorem mr172 : mret 172 = some .boolean := by decide +kernel
theorem mg172 : kGood 172 = true := by decide +kernel

def T173_9 : List Tok := []
def T173_8 : List Tok := (.ireturn, 1, 0, 0) :: T173_9
def T173_7 : List Tok := (.iconst 0, 1, 0, 0) :: T173_8
def T173_6 : List Tok := (.goto 4, 3, 0, 0) :: T173_7
def T173_5 : List Tok := (.iconst 1, 1, 0, 0) :: T173_6
def T173_4 : List Tok := (.if_icmp .ge 7, 3, 0, 0) :: T173_5
def T173_3 : List Tok := (.bipush 6, 2, 0, 0) :: T173_4
def T173_2 : List Tok := (.iload_n 0, 1, 0, 0) :: T173_3
def T173_1 : List Tok := (.ifCond .lt 13, 3, 0, 0) :: T173_2
def T173_0 : List Tok := (.iload_n 0, 1, 0, 0) :: T173_1
theorem o173_0 (hB : BytesOK) : okL 173 0 T173_0 = true := by
  have h := hB.1 173
  rw [show tk 173 = T173_0 from by decide +kernel] at h
  exact h
theorem o173_1 (hB : BytesOK) : okL 173 1 T173_1 = true := (okL_c (o173_0 hB)).2.2
theorem o173_2 (hB : BytesOK) : okL 173 4 T173_2 = true := (okL_c (o173_1 hB)).2.2
theorem o173_3 (hB : BytesOK) : okL 173 5 T173_3 = true := (okL_c (o173_2 hB)).2.2
theorem o173_4 (hB : BytesOK) : okL 173 7 T173_4 = true := (okL_c (o173_3 hB)).2.2
theorem o173_5 (hB : BytesOK) : okL 173 10 T173_5 = true := (okL_c (o173_4 hB)).2.2
theorem o173_6 (hB : BytesOK) : okL 173 11 T173_6 = true := (okL_c (o173_5 hB)).2.2
theorem o173_7 (hB : BytesOK) : okL 173 14 T173_7 = true := (okL_c (o173_6 hB)).2.2
theorem o173_8 (hB : BytesOK) : okL 173 15 T173_8 = true := (okL_c (o173_7 hB)).2.2
theorem ml173 : mml 173 = 1 := by decide +kernel
theorem mr173 : mret 173 = some .boolean := by decide +kernel
theorem mg173 : kGood 173 = true := by decide +kernel

def T177_23 : List Tok := []
def T177_22 : List Tok := (.ireturn, 1, 0, 0) :: T177_23
def T177_21 : List Tok := (.iconst 0, 1, 0, 0) :: T177_22
def T177_20 : List Tok := (.goto 4, 3, 0, 0) :: T177_21
def T177_19 : List Tok := (.iconst 1, 1, 0, 0) :: T177_20
def T177_18 : List Tok := (.if_icmp .ge 7, 3, 0, 0) :: T177_19
def T177_17 : List Tok := (.sipush 240, 3, 0, 0) :: T177_18
def T177_16 : List Tok := (.irem, 1, 0, 0) :: T177_17
def T177_15 : List Tok := (.sipush 1000, 3, 0, 0) :: T177_16
def T177_14 : List Tok := (.iload_n 0, 1, 0, 0) :: T177_15
def T177_13 : List Tok := (.if_icmp .ge 18, 3, 0, 0) :: T177_14
def T177_12 : List Tok := (.iconst 4, 1, 0, 0) :: T177_13
def T177_11 : List Tok := (.irem, 1, 0, 0) :: T177_12
def T177_10 : List Tok := (.bipush 10, 2, 0, 0) :: T177_11
def T177_9 : List Tok := (.idiv, 1, 0, 0) :: T177_10
def T177_8 : List Tok := (.sipush 1000, 3, 0, 0) :: T177_9
def T177_7 : List Tok := (.iload_n 0, 1, 0, 0) :: T177_8
def T177_6 : List Tok := (.if_icmp .ge 30, 3, 0, 0) :: T177_7
def T177_5 : List Tok := (.bipush 6, 2, 0, 0) :: T177_6
def T177_4 : List Tok := (.idiv, 1, 0, 0) :: T177_5
def T177_3 : List Tok := (.sipush 10000, 3, 0, 0) :: T177_4
def T177_2 : List Tok := (.iload_n 0, 1, 0, 0) :: T177_3
def T177_1 : List Tok := (.ifCond .lt 40, 3, 0, 0) :: T177_2
def T177_0 : List Tok := (.iload_n 0, 1, 0, 0) :: T177_1
theorem o177_0 (hB : BytesOK) : okL 177 0 T177_0 = true := by
  have h := hB.1 177
  rw [show tk 177 = T177_0 from by decide +kernel] at h
  exact h
theorem o177_1 (hB : BytesOK) : okL 177 1 T177_1 = true := (okL_c (o177_0 hB)).2.2
theorem o177_2 (hB : BytesOK) : okL 177 4 T177_2 = true := (okL_c (o177_1 hB)).2.2
theorem o177_3 (hB : BytesOK) : okL 177 5 T177_3 = true := (okL_c (o177_2 hB)).2.2
theorem o177_4 (hB : BytesOK) : okL 177 8 T177_4 = true := (okL_c (o177_3 hB)).2.2
theorem o177_5 (hB : BytesOK) : okL 177 9 T177_5 = true := (okL_c (o177_4 hB)).2.2
theorem o177_6 (hB : BytesOK) : okL 177 11 T177_6 = true := (okL_c (o177_5 hB)).2.2
theorem o177_7 (hB : BytesOK) : okL 177 14 T177_7 = true := (okL_c (o177_6 hB)).2.2
theorem o177_8 (hB : BytesOK) : okL 177 15 T177_8 = true := (okL_c (o177_7 hB)).2.2
theorem o177_9 (hB : BytesOK) : okL 177 18 T177_9 = true := (okL_c (o177_8 hB)).2.2
theorem o177_10 (hB : BytesOK) : okL 177 19 T177_10 = true := (okL_c (o177_9 hB)).2.2
theorem o177_11 (hB : BytesOK) : okL 177 21 T177_11 = true := (okL_c (o177_10 hB)).2.2
theorem o177_12 (hB : BytesOK) : okL 177 22 T177_12 = true := (okL_c (o177_11 hB)).2.2
theorem o177_13 (hB : BytesOK) : okL 177 23 T177_13 = true := (okL_c (o177_12 hB)).2.2
theorem o177_14 (hB : BytesOK) : okL 177 26 T177_14 = true := (okL_c (o177_13 hB)).2.2
theorem o177_15 (hB : BytesOK) : okL 177 27 T177_15 = true := (okL_c (o177_14 hB)).2.2
theorem o177_16 (hB : BytesOK) : okL 177 30 T177_16 = true := (okL_c (o177_15 hB)).2.2
theorem o177_17 (hB : BytesOK) : okL 177 31 T177_17 = true := (okL_c (o177_16 hB)).2.2
theorem o177_18 (hB : BytesOK) : okL 177 34 T177_18 = true := (okL_c (o177_17 hB)).2.2
theorem o177_19 (hB : BytesOK) : okL 177 37 T177_19 = true := (okL_c (o177_18 hB)).2.2
theorem o177_20 (hB : BytesOK) : okL 177 38 T177_20 = true := (okL_c (o177_19 hB)).2.2
theorem o177_21 (hB : BytesOK) : okL 177 41 T177_21 = true := (okL_c (o177_20 hB)).2.2
theorem o177_22 (hB : BytesOK) : okL 177 42 T177_22 = true := (okL_c (o177_21 hB)).2.2
theorem ml177 : mml 177 = 1 := by decide +kernel
theorem mr177 : mret 177 = some .boolean := by decide +kernel
theorem mg177 : kGood 177 = true := by decide +kernel

def T178_11 : List Tok := []
def T178_10 : List Tok := (.return_, 1, 0, 0) :: T178_11
def T178_9 : List Tok := (.invokestatic 347, 3, 1001, 828) :: T178_10
def T178_8 : List Tok := (.invokestatic 342, 3, 300, 825) :: T178_9
def T178_7 : List Tok := (.arraylength, 1, 0, 0) :: T178_8
def T178_6 : List Tok := (.aload_n 1, 1, 0, 0) :: T178_7
def T178_5 : List Tok := (.arraylength, 1, 0, 0) :: T178_6
def T178_4 : List Tok := (.aload_n 0, 1, 0, 0) :: T178_5
def T178_3 : List Tok := (.iconst 0, 1, 0, 0) :: T178_4
def T178_2 : List Tok := (.aload_n 1, 1, 0, 0) :: T178_3
def T178_1 : List Tok := (.iconst 0, 1, 0, 0) :: T178_2
def T178_0 : List Tok := (.aload_n 0, 1, 0, 0) :: T178_1
theorem o178_0 (hB : BytesOK) : okL 178 0 T178_0 = true := by
  have h := hB.1 178
  rw [show tk 178 = T178_0 from by decide +kernel] at h
  exact h
theorem o178_1 (hB : BytesOK) : okL 178 1 T178_1 = true := (okL_c (o178_0 hB)).2.2
theorem o178_2 (hB : BytesOK) : okL 178 2 T178_2 = true := (okL_c (o178_1 hB)).2.2
theorem o178_3 (hB : BytesOK) : okL 178 3 T178_3 = true := (okL_c (o178_2 hB)).2.2
theorem o178_4 (hB : BytesOK) : okL 178 4 T178_4 = true := (okL_c (o178_3 hB)).2.2
theorem o178_5 (hB : BytesOK) : okL 178 5 T178_5 = true := (okL_c (o178_4 hB)).2.2
theorem o178_6 (hB : BytesOK) : okL 178 6 T178_6 = true := (okL_c (o178_5 hB)).2.2
theorem o178_7 (hB : BytesOK) : okL 178 7 T178_7 = true := (okL_c (o178_6 hB)).2.2
theorem o178_8 (hB : BytesOK) : okL 178 8 T178_8 = true := (okL_c (o178_7 hB)).2.2
theorem o178_9 (hB : BytesOK) : okL 178 11 T178_9 = true := (okL_c (o178_8 hB)).2.2
theorem o178_10 (hB : BytesOK) : okL 178 14 T178_10 = true := (okL_c (o178_9 hB)).2.2
theorem ml178 : mml 178 = 2 := by decide +kernel
theorem mr178 : mret 178 = none := by decide +kernel
theorem mg178 : kGood 178 = true := by decide +kernel

def T184_10 : List Tok := []
def T184_9 : List Tok := (.ireturn, 1, 0, 0) :: T184_10
def T184_8 : List Tok := (.iconst 0, 1, 0, 0) :: T184_9
def T184_7 : List Tok := (.goto 4, 3, 0, 0) :: T184_8
def T184_6 : List Tok := (.iconst 1, 1, 0, 0) :: T184_7
def T184_5 : List Tok := (.if_icmp .gt 7, 3, 0, 0) :: T184_6
def T184_4 : List Tok := (.iload_n 2, 1, 0, 0) :: T184_5
def T184_3 : List Tok := (.iload_n 0, 1, 0, 0) :: T184_4
def T184_2 : List Tok := (.if_icmp .lt 12, 3, 0, 0) :: T184_3
def T184_1 : List Tok := (.iload_n 1, 1, 0, 0) :: T184_2
def T184_0 : List Tok := (.iload_n 0, 1, 0, 0) :: T184_1
theorem o184_0 (hB : BytesOK) : okL 184 0 T184_0 = true := by
  have h := hB.1 184
  rw [show tk 184 = T184_0 from by decide +kernel] at h
  exact h
theorem o184_1 (hB : BytesOK) : okL 184 1 T184_1 = true := (okL_c (o184_0 hB)).2.2
theorem o184_2 (hB : BytesOK) : okL 184 2 T184_2 = true := (okL_c (o184_1 hB)).2.2
theorem o184_3 (hB : BytesOK) : okL 184 5 T184_3 = true := (okL_c (o184_2 hB)).2.2
theorem o184_4 (hB : BytesOK) : okL 184 6 T184_4 = true := (okL_c (o184_3 hB)).2.2
theorem o184_5 (hB : BytesOK) : okL 184 7 T184_5 = true := (okL_c (o184_4 hB)).2.2
theorem o184_6 (hB : BytesOK) : okL 184 10 T184_6 = true := (okL_c (o184_5 hB)).2.2
theorem o184_7 (hB : BytesOK) : okL 184 11 T184_7 = true := (okL_c (o184_6 hB)).2.2
theorem o184_8 (hB : BytesOK) : okL 184 14 T184_8 = true := (okL_c (o184_7 hB)).2.2
theorem o184_9 (hB : BytesOK) : okL 184 15 T184_9 = true := (okL_c (o184_8 hB)).2.2
theorem ml184 : mml 184 = 3 := by decide +kernel
theorem mr184 : mret 184 = some .boolean := by decide +kernel
theorem mg184 : kGood 184 = true := by decide +kernel

def T185_5 : List Tok := []
def T185_4 : List Tok := (.ireturn, 1, 0, 0) :: T185_5
def T185_3 : List Tok := (.invokestatic 64, 3, 184, 1491) :: T185_4
def T185_2 : List Tok := (.sipush 239, 3, 0, 0) :: T185_3
def T185_1 : List Tok := (.iconst 0, 1, 0, 0) :: T185_2
def T185_0 : List Tok := (.iload_n 0, 1, 0, 0) :: T185_1
theorem o185_0 (hB : BytesOK) : okL 185 0 T185_0 = true := by
  have h := hB.1 185
  rw [show tk 185 = T185_0 from by decide +kernel] at h
  exact h
theorem o185_1 (hB : BytesOK) : okL 185 1 T185_1 = true := (okL_c (o185_0 hB)).2.2
theorem o185_2 (hB : BytesOK) : okL 185 2 T185_2 = true := (okL_c (o185_1 hB)).2.2
theorem o185_3 (hB : BytesOK) : okL 185 5 T185_3 = true := (okL_c (o185_2 hB)).2.2
theorem o185_4 (hB : BytesOK) : okL 185 8 T185_4 = true := (okL_c (o185_3 hB)).2.2
theorem ml185 : mml 185 = 1 := by decide +kernel
theorem mr185 : mret 185 = some .boolean := by decide +kernel
theorem mg185 : kGood 185 = true := by decide +kernel

def T186_5 : List Tok := []
def T186_4 : List Tok := (.ireturn, 1, 0, 0) :: T186_5
def T186_3 : List Tok := (.invokestatic 64, 3, 184, 1491) :: T186_4
def T186_2 : List Tok := (.bipush 7, 2, 0, 0) :: T186_3
def T186_1 : List Tok := (.iconst 0, 1, 0, 0) :: T186_2
def T186_0 : List Tok := (.iload_n 0, 1, 0, 0) :: T186_1
theorem o186_0 (hB : BytesOK) : okL 186 0 T186_0 = true := by
  have h := hB.1 186
  rw [show tk 186 = T186_0 from by decide +kernel] at h
  exact h
theorem o186_1 (hB : BytesOK) : okL 186 1 T186_1 = true := (okL_c (o186_0 hB)).2.2
theorem o186_2 (hB : BytesOK) : okL 186 2 T186_2 = true := (okL_c (o186_1 hB)).2.2
theorem o186_3 (hB : BytesOK) : okL 186 4 T186_3 = true := (okL_c (o186_2 hB)).2.2
theorem o186_4 (hB : BytesOK) : okL 186 7 T186_4 = true := (okL_c (o186_3 hB)).2.2
theorem ml186 : mml 186 = 1 := by decide +kernel
theorem mr186 : mret 186 = some .boolean := by decide +kernel
theorem mg186 : kGood 186 = true := by decide +kernel

def T187_5 : List Tok := []
def T187_4 : List Tok := (.ireturn, 1, 0, 0) :: T187_5
def T187_3 : List Tok := (.invokestatic 64, 3, 184, 1491) :: T187_4
def T187_2 : List Tok := (.iconst 5, 1, 0, 0) :: T187_3
def T187_1 : List Tok := (.iconst 0, 1, 0, 0) :: T187_2
def T187_0 : List Tok := (.iload_n 0, 1, 0, 0) :: T187_1
theorem o187_0 (hB : BytesOK) : okL 187 0 T187_0 = true := by
  have h := hB.1 187
  rw [show tk 187 = T187_0 from by decide +kernel] at h
  exact h
theorem o187_1 (hB : BytesOK) : okL 187 1 T187_1 = true := (okL_c (o187_0 hB)).2.2
theorem o187_2 (hB : BytesOK) : okL 187 2 T187_2 = true := (okL_c (o187_1 hB)).2.2
theorem o187_3 (hB : BytesOK) : okL 187 3 T187_3 = true := (okL_c (o187_2 hB)).2.2
theorem o187_4 (hB : BytesOK) : okL 187 6 T187_4 = true := (okL_c (o187_3 hB)).2.2
theorem ml187 : mml 187 = 1 := by decide +kernel
theorem mr187 : mret 187 = some .boolean := by decide +kernel
theorem mg187 : kGood 187 = true := by decide +kernel

def T196_63 : List Tok := []
def T196_62 : List Tok := (.ireturn, 1, 0, 0) :: T196_63
def T196_61 : List Tok := (.iload_n 3, 1, 0, 0) :: T196_62
def T196_60 : List Tok := (.goto (-93), 3, 0, 0) :: T196_61
def T196_59 : List Tok := (.iinc 5 1, 3, 0, 0) :: T196_60
def T196_58 : List Tok := (.istore 4, 2, 0, 0) :: T196_59
def T196_57 : List Tok := (.iaload, 1, 0, 0) :: T196_58
def T196_56 : List Tok := (.iadd, 1, 0, 0) :: T196_57
def T196_55 : List Tok := (.iconst 2, 1, 0, 0) :: T196_56
def T196_54 : List Tok := (.iload 6, 2, 0, 0) :: T196_55
def T196_53 : List Tok := (.getfield 7, 3, 704, 1345) :: T196_54
def T196_52 : List Tok := (.aload_n 0, 1, 0, 0) :: T196_53
def T196_51 : List Tok := (.istore_n 3, 1, 0, 0) :: T196_52
def T196_50 : List Tok := (.iconst 0, 1, 0, 0) :: T196_51
def T196_49 : List Tok := (.goto 4, 3, 0, 0) :: T196_50
def T196_48 : List Tok := (.iconst 1, 1, 0, 0) :: T196_49
def T196_47 : List Tok := (.if_icmp .ne 7, 3, 0, 0) :: T196_48
def T196_46 : List Tok := (.iconst 1, 1, 0, 0) :: T196_47
def T196_45 : List Tok := (.iaload, 1, 0, 0) :: T196_46
def T196_44 : List Tok := (.iadd, 1, 0, 0) :: T196_45
def T196_43 : List Tok := (.iconst 1, 1, 0, 0) :: T196_44
def T196_42 : List Tok := (.iload 6, 2, 0, 0) :: T196_43
def T196_41 : List Tok := (.getfield 7, 3, 704, 1345) :: T196_42
def T196_40 : List Tok := (.aload_n 0, 1, 0, 0) :: T196_41
def T196_39 : List Tok := (.if_icmp .lt 33, 3, 0, 0) :: T196_40
def T196_38 : List Tok := (.iload 4, 2, 0, 0) :: T196_39
def T196_37 : List Tok := (.iaload, 1, 0, 0) :: T196_38
def T196_36 : List Tok := (.iadd, 1, 0, 0) :: T196_37
def T196_35 : List Tok := (.iconst 2, 1, 0, 0) :: T196_36
def T196_34 : List Tok := (.iload 6, 2, 0, 0) :: T196_35
def T196_33 : List Tok := (.getfield 7, 3, 704, 1345) :: T196_34
def T196_32 : List Tok := (.aload_n 0, 1, 0, 0) :: T196_33
def T196_31 : List Tok := (.if_icmp .gt 47, 3, 0, 0) :: T196_32
def T196_30 : List Tok := (.iload_n 2, 1, 0, 0) :: T196_31
def T196_29 : List Tok := (.iaload, 1, 0, 0) :: T196_30
def T196_28 : List Tok := (.iadd, 1, 0, 0) :: T196_29
def T196_27 : List Tok := (.iconst 2, 1, 0, 0) :: T196_28
def T196_26 : List Tok := (.iload 6, 2, 0, 0) :: T196_27
def T196_25 : List Tok := (.getfield 7, 3, 704, 1345) :: T196_26
def T196_24 : List Tok := (.aload_n 0, 1, 0, 0) :: T196_25
def T196_23 : List Tok := (.if_icmp .ne 60, 3, 0, 0) :: T196_24
def T196_22 : List Tok := (.iload_n 1, 1, 0, 0) :: T196_23
def T196_21 : List Tok := (.iaload, 1, 0, 0) :: T196_22
def T196_20 : List Tok := (.iload 6, 2, 0, 0) :: T196_21
def T196_19 : List Tok := (.getfield 7, 3, 704, 1345) :: T196_20
def T196_18 : List Tok := (.aload_n 0, 1, 0, 0) :: T196_19
def T196_17 : List Tok := (.istore 6, 2, 0, 0) :: T196_18
def T196_16 : List Tok := (.iadd, 1, 0, 0) :: T196_17
def T196_15 : List Tok := (.imul, 1, 0, 0) :: T196_16
def T196_14 : List Tok := (.iload 5, 2, 0, 0) :: T196_15
def T196_13 : List Tok := (.iconst 3, 1, 0, 0) :: T196_14
def T196_12 : List Tok := (.sipush 204, 3, 0, 0) :: T196_13
def T196_11 : List Tok := (.if_icmp .ge 87, 3, 0, 0) :: T196_12
def T196_10 : List Tok := (.iaload, 1, 0, 0) :: T196_11
def T196_9 : List Tok := (.bipush 10, 2, 0, 0) :: T196_10
def T196_8 : List Tok := (.getfield 7, 3, 704, 1345) :: T196_9
def T196_7 : List Tok := (.aload_n 0, 1, 0, 0) :: T196_8
def T196_6 : List Tok := (.iload 5, 2, 0, 0) :: T196_7
def T196_5 : List Tok := (.istore 5, 2, 0, 0) :: T196_6
def T196_4 : List Tok := (.iconst 0, 1, 0, 0) :: T196_5
def T196_3 : List Tok := (.istore 4, 2, 0, 0) :: T196_4
def T196_2 : List Tok := (.iconst (-1), 1, 0, 0) :: T196_3
def T196_1 : List Tok := (.istore_n 3, 1, 0, 0) :: T196_2
def T196_0 : List Tok := (.iconst 0, 1, 0, 0) :: T196_1
theorem o196_0 (hB : BytesOK) : okL 196 0 T196_0 = true := by
  have h := hB.1 196
  rw [show tk 196 = T196_0 from by decide +kernel] at h
  exact h
theorem o196_1 (hB : BytesOK) : okL 196 1 T196_1 = true := (okL_c (o196_0 hB)).2.2
theorem o196_2 (hB : BytesOK) : okL 196 2 T196_2 = true := (okL_c (o196_1 hB)).2.2
theorem o196_3 (hB : BytesOK) : okL 196 3 T196_3 = true := (okL_c (o196_2 hB)).2.2
theorem o196_4 (hB : BytesOK) : okL 196 5 T196_4 = true := (okL_c (o196_3 hB)).2.2
theorem o196_5 (hB : BytesOK) : okL 196 6 T196_5 = true := (okL_c (o196_4 hB)).2.2
theorem o196_6 (hB : BytesOK) : okL 196 8 T196_6 = true := (okL_c (o196_5 hB)).2.2
theorem o196_7 (hB : BytesOK) : okL 196 10 T196_7 = true := (okL_c (o196_6 hB)).2.2
theorem o196_8 (hB : BytesOK) : okL 196 11 T196_8 = true := (okL_c (o196_7 hB)).2.2
theorem o196_9 (hB : BytesOK) : okL 196 14 T196_9 = true := (okL_c (o196_8 hB)).2.2
theorem o196_10 (hB : BytesOK) : okL 196 16 T196_10 = true := (okL_c (o196_9 hB)).2.2
theorem o196_11 (hB : BytesOK) : okL 196 17 T196_11 = true := (okL_c (o196_10 hB)).2.2
theorem o196_12 (hB : BytesOK) : okL 196 20 T196_12 = true := (okL_c (o196_11 hB)).2.2
theorem o196_13 (hB : BytesOK) : okL 196 23 T196_13 = true := (okL_c (o196_12 hB)).2.2
theorem o196_14 (hB : BytesOK) : okL 196 24 T196_14 = true := (okL_c (o196_13 hB)).2.2
theorem o196_15 (hB : BytesOK) : okL 196 26 T196_15 = true := (okL_c (o196_14 hB)).2.2
theorem o196_16 (hB : BytesOK) : okL 196 27 T196_16 = true := (okL_c (o196_15 hB)).2.2
theorem o196_17 (hB : BytesOK) : okL 196 28 T196_17 = true := (okL_c (o196_16 hB)).2.2
theorem o196_18 (hB : BytesOK) : okL 196 30 T196_18 = true := (okL_c (o196_17 hB)).2.2
theorem o196_19 (hB : BytesOK) : okL 196 31 T196_19 = true := (okL_c (o196_18 hB)).2.2
theorem o196_20 (hB : BytesOK) : okL 196 34 T196_20 = true := (okL_c (o196_19 hB)).2.2
theorem o196_21 (hB : BytesOK) : okL 196 36 T196_21 = true := (okL_c (o196_20 hB)).2.2
theorem o196_22 (hB : BytesOK) : okL 196 37 T196_22 = true := (okL_c (o196_21 hB)).2.2
theorem o196_23 (hB : BytesOK) : okL 196 38 T196_23 = true := (okL_c (o196_22 hB)).2.2
theorem o196_24 (hB : BytesOK) : okL 196 41 T196_24 = true := (okL_c (o196_23 hB)).2.2
theorem o196_25 (hB : BytesOK) : okL 196 42 T196_25 = true := (okL_c (o196_24 hB)).2.2
theorem o196_26 (hB : BytesOK) : okL 196 45 T196_26 = true := (okL_c (o196_25 hB)).2.2
theorem o196_27 (hB : BytesOK) : okL 196 47 T196_27 = true := (okL_c (o196_26 hB)).2.2
theorem o196_28 (hB : BytesOK) : okL 196 48 T196_28 = true := (okL_c (o196_27 hB)).2.2
theorem o196_29 (hB : BytesOK) : okL 196 49 T196_29 = true := (okL_c (o196_28 hB)).2.2
theorem o196_30 (hB : BytesOK) : okL 196 50 T196_30 = true := (okL_c (o196_29 hB)).2.2
theorem o196_31 (hB : BytesOK) : okL 196 51 T196_31 = true := (okL_c (o196_30 hB)).2.2
theorem o196_32 (hB : BytesOK) : okL 196 54 T196_32 = true := (okL_c (o196_31 hB)).2.2
theorem o196_33 (hB : BytesOK) : okL 196 55 T196_33 = true := (okL_c (o196_32 hB)).2.2
theorem o196_34 (hB : BytesOK) : okL 196 58 T196_34 = true := (okL_c (o196_33 hB)).2.2
theorem o196_35 (hB : BytesOK) : okL 196 60 T196_35 = true := (okL_c (o196_34 hB)).2.2
theorem o196_36 (hB : BytesOK) : okL 196 61 T196_36 = true := (okL_c (o196_35 hB)).2.2
theorem o196_37 (hB : BytesOK) : okL 196 62 T196_37 = true := (okL_c (o196_36 hB)).2.2
theorem o196_38 (hB : BytesOK) : okL 196 63 T196_38 = true := (okL_c (o196_37 hB)).2.2
theorem o196_39 (hB : BytesOK) : okL 196 65 T196_39 = true := (okL_c (o196_38 hB)).2.2
theorem o196_40 (hB : BytesOK) : okL 196 68 T196_40 = true := (okL_c (o196_39 hB)).2.2
theorem o196_41 (hB : BytesOK) : okL 196 69 T196_41 = true := (okL_c (o196_40 hB)).2.2
theorem o196_42 (hB : BytesOK) : okL 196 72 T196_42 = true := (okL_c (o196_41 hB)).2.2
theorem o196_43 (hB : BytesOK) : okL 196 74 T196_43 = true := (okL_c (o196_42 hB)).2.2
theorem o196_44 (hB : BytesOK) : okL 196 75 T196_44 = true := (okL_c (o196_43 hB)).2.2
theorem o196_45 (hB : BytesOK) : okL 196 76 T196_45 = true := (okL_c (o196_44 hB)).2.2
theorem o196_46 (hB : BytesOK) : okL 196 77 T196_46 = true := (okL_c (o196_45 hB)).2.2
theorem o196_47 (hB : BytesOK) : okL 196 78 T196_47 = true := (okL_c (o196_46 hB)).2.2
theorem o196_48 (hB : BytesOK) : okL 196 81 T196_48 = true := (okL_c (o196_47 hB)).2.2
theorem o196_49 (hB : BytesOK) : okL 196 82 T196_49 = true := (okL_c (o196_48 hB)).2.2
theorem o196_50 (hB : BytesOK) : okL 196 85 T196_50 = true := (okL_c (o196_49 hB)).2.2
theorem o196_51 (hB : BytesOK) : okL 196 86 T196_51 = true := (okL_c (o196_50 hB)).2.2
theorem o196_52 (hB : BytesOK) : okL 196 87 T196_52 = true := (okL_c (o196_51 hB)).2.2
theorem o196_53 (hB : BytesOK) : okL 196 88 T196_53 = true := (okL_c (o196_52 hB)).2.2
theorem o196_54 (hB : BytesOK) : okL 196 91 T196_54 = true := (okL_c (o196_53 hB)).2.2
theorem o196_55 (hB : BytesOK) : okL 196 93 T196_55 = true := (okL_c (o196_54 hB)).2.2
theorem o196_56 (hB : BytesOK) : okL 196 94 T196_56 = true := (okL_c (o196_55 hB)).2.2
theorem o196_57 (hB : BytesOK) : okL 196 95 T196_57 = true := (okL_c (o196_56 hB)).2.2
theorem o196_58 (hB : BytesOK) : okL 196 96 T196_58 = true := (okL_c (o196_57 hB)).2.2
theorem o196_59 (hB : BytesOK) : okL 196 98 T196_59 = true := (okL_c (o196_58 hB)).2.2
theorem o196_60 (hB : BytesOK) : okL 196 101 T196_60 = true := (okL_c (o196_59 hB)).2.2
theorem o196_61 (hB : BytesOK) : okL 196 104 T196_61 = true := (okL_c (o196_60 hB)).2.2
theorem o196_62 (hB : BytesOK) : okL 196 105 T196_62 = true := (okL_c (o196_61 hB)).2.2
theorem ml196 : mml 196 = 7 := by decide +kernel
theorem mr196 : mret 196 = some .boolean := by decide +kernel
theorem mg196 : kGood 196 = true := by decide +kernel

def T229_21 : List Tok := []
def T229_20 : List Tok := (.ireturn, 1, 0, 0) :: T229_21
def T229_19 : List Tok := (.iconst 0, 1, 0, 0) :: T229_20
def T229_18 : List Tok := (.goto 4, 3, 0, 0) :: T229_19
def T229_17 : List Tok := (.iconst 1, 1, 0, 0) :: T229_18
def T229_16 : List Tok := (.ifCond .eq 7, 3, 0, 0) :: T229_17
def T229_15 : List Tok := (.invokestatic 72, 3, 185, 1501) :: T229_16
def T229_14 : List Tok := (.irem, 1, 0, 0) :: T229_15
def T229_13 : List Tok := (.sipush 1000, 3, 0, 0) :: T229_14
def T229_12 : List Tok := (.iload_n 0, 1, 0, 0) :: T229_13
def T229_11 : List Tok := (.if_icmp .ge 18, 3, 0, 0) :: T229_12
def T229_10 : List Tok := (.iconst 4, 1, 0, 0) :: T229_11
def T229_9 : List Tok := (.irem, 1, 0, 0) :: T229_10
def T229_8 : List Tok := (.bipush 10, 2, 0, 0) :: T229_9
def T229_7 : List Tok := (.idiv, 1, 0, 0) :: T229_8
def T229_6 : List Tok := (.sipush 1000, 3, 0, 0) :: T229_7
def T229_5 : List Tok := (.iload_n 0, 1, 0, 0) :: T229_6
def T229_4 : List Tok := (.ifCond .eq 30, 3, 0, 0) :: T229_5
def T229_3 : List Tok := (.invokestatic 64, 3, 184, 1491) :: T229_4
def T229_2 : List Tok := (.ldc 221, 2, 14, 1663) :: T229_3
def T229_1 : List Tok := (.iconst 0, 1, 0, 0) :: T229_2
def T229_0 : List Tok := (.iload_n 0, 1, 0, 0) :: T229_1
theorem o229_0 (hB : BytesOK) : okL 229 0 T229_0 = true := by
  have h := hB.1 229
  rw [show tk 229 = T229_0 from by decide +kernel] at h
  exact h
theorem o229_1 (hB : BytesOK) : okL 229 1 T229_1 = true := (okL_c (o229_0 hB)).2.2
theorem o229_2 (hB : BytesOK) : okL 229 2 T229_2 = true := (okL_c (o229_1 hB)).2.2
theorem o229_3 (hB : BytesOK) : okL 229 4 T229_3 = true := (okL_c (o229_2 hB)).2.2
theorem o229_4 (hB : BytesOK) : okL 229 7 T229_4 = true := (okL_c (o229_3 hB)).2.2
theorem o229_5 (hB : BytesOK) : okL 229 10 T229_5 = true := (okL_c (o229_4 hB)).2.2
theorem o229_6 (hB : BytesOK) : okL 229 11 T229_6 = true := (okL_c (o229_5 hB)).2.2
theorem o229_7 (hB : BytesOK) : okL 229 14 T229_7 = true := (okL_c (o229_6 hB)).2.2
theorem o229_8 (hB : BytesOK) : okL 229 15 T229_8 = true := (okL_c (o229_7 hB)).2.2
theorem o229_9 (hB : BytesOK) : okL 229 17 T229_9 = true := (okL_c (o229_8 hB)).2.2
theorem o229_10 (hB : BytesOK) : okL 229 18 T229_10 = true := (okL_c (o229_9 hB)).2.2
theorem o229_11 (hB : BytesOK) : okL 229 19 T229_11 = true := (okL_c (o229_10 hB)).2.2
theorem o229_12 (hB : BytesOK) : okL 229 22 T229_12 = true := (okL_c (o229_11 hB)).2.2
theorem o229_13 (hB : BytesOK) : okL 229 23 T229_13 = true := (okL_c (o229_12 hB)).2.2
theorem o229_14 (hB : BytesOK) : okL 229 26 T229_14 = true := (okL_c (o229_13 hB)).2.2
theorem o229_15 (hB : BytesOK) : okL 229 27 T229_15 = true := (okL_c (o229_14 hB)).2.2
theorem o229_16 (hB : BytesOK) : okL 229 30 T229_16 = true := (okL_c (o229_15 hB)).2.2
theorem o229_17 (hB : BytesOK) : okL 229 33 T229_17 = true := (okL_c (o229_16 hB)).2.2
theorem o229_18 (hB : BytesOK) : okL 229 34 T229_18 = true := (okL_c (o229_17 hB)).2.2
theorem o229_19 (hB : BytesOK) : okL 229 37 T229_19 = true := (okL_c (o229_18 hB)).2.2
theorem o229_20 (hB : BytesOK) : okL 229 38 T229_20 = true := (okL_c (o229_19 hB)).2.2
theorem ml229 : mml 229 = 1 := by decide +kernel
theorem mr229 : mret 229 = some .boolean := by decide +kernel
theorem mg229 : kGood 229 = true := by decide +kernel

def T264_52 : List Tok := []
def T264_51 : List Tok := (.ireturn, 1, 0, 0) :: T264_52
def T264_50 : List Tok := (.iload 4, 2, 0, 0) :: T264_51
def T264_49 : List Tok := (.iastore, 1, 0, 0) :: T264_50
def T264_48 : List Tok := (.iload_n 2, 1, 0, 0) :: T264_49
def T264_47 : List Tok := (.iadd, 1, 0, 0) :: T264_48
def T264_46 : List Tok := (.iload_n 1, 1, 0, 0) :: T264_47
def T264_45 : List Tok := (.sipush 582, 3, 0, 0) :: T264_46
def T264_44 : List Tok := (.getfield 7, 3, 704, 1345) :: T264_45
def T264_43 : List Tok := (.aload_n 0, 1, 0, 0) :: T264_44
def T264_42 : List Tok := (.istore 4, 2, 0, 0) :: T264_43
def T264_41 : List Tok := (.iaload, 1, 0, 0) :: T264_42
def T264_40 : List Tok := (.iadd, 1, 0, 0) :: T264_41
def T264_39 : List Tok := (.iload_n 1, 1, 0, 0) :: T264_40
def T264_38 : List Tok := (.sipush 582, 3, 0, 0) :: T264_39
def T264_37 : List Tok := (.getfield 7, 3, 704, 1345) :: T264_38
def T264_36 : List Tok := (.aload_n 0, 1, 0, 0) :: T264_37
def T264_35 : List Tok := (.ireturn, 1, 0, 0) :: T264_36
def T264_34 : List Tok := (.iconst (-1), 1, 0, 0) :: T264_35
def T264_33 : List Tok := (.ifCond .ne 5, 3, 0, 0) :: T264_34
def T264_32 : List Tok := (.iload_n 3, 1, 0, 0) :: T264_33
def T264_31 : List Tok := (.goto (-31), 3, 0, 0) :: T264_32
def T264_30 : List Tok := (.istore 4, 2, 0, 0) :: T264_31
def T264_29 : List Tok := (.idiv, 1, 0, 0) :: T264_30
def T264_28 : List Tok := (.bipush 10, 2, 0, 0) :: T264_29
def T264_27 : List Tok := (.iload 4, 2, 0, 0) :: T264_28
def T264_26 : List Tok := (.istore_n 3, 1, 0, 0) :: T264_27
def T264_25 : List Tok := (.iconst 0, 1, 0, 0) :: T264_26
def T264_24 : List Tok := (.goto 4, 3, 0, 0) :: T264_25
def T264_23 : List Tok := (.iconst 1, 1, 0, 0) :: T264_24
def T264_22 : List Tok := (.if_icmp .ge 7, 3, 0, 0) :: T264_23
def T264_21 : List Tok := (.iconst 4, 1, 0, 0) :: T264_22
def T264_20 : List Tok := (.irem, 1, 0, 0) :: T264_21
def T264_19 : List Tok := (.bipush 10, 2, 0, 0) :: T264_20
def T264_18 : List Tok := (.iload 4, 2, 0, 0) :: T264_19
def T264_17 : List Tok := (.ifCond .eq 28, 3, 0, 0) :: T264_18
def T264_16 : List Tok := (.iload_n 3, 1, 0, 0) :: T264_17
def T264_15 : List Tok := (.ifCond .le 32, 3, 0, 0) :: T264_16
def T264_14 : List Tok := (.iload 4, 2, 0, 0) :: T264_15
def T264_13 : List Tok := (.istore 4, 2, 0, 0) :: T264_14
def T264_12 : List Tok := (.iload_n 2, 1, 0, 0) :: T264_13
def T264_11 : List Tok := (.istore_n 3, 1, 0, 0) :: T264_12
def T264_10 : List Tok := (.iconst 0, 1, 0, 0) :: T264_11
def T264_9 : List Tok := (.goto 4, 3, 0, 0) :: T264_10
def T264_8 : List Tok := (.iconst 1, 1, 0, 0) :: T264_9
def T264_7 : List Tok := (.ifCond .eq 7, 3, 0, 0) :: T264_8
def T264_6 : List Tok := (.invokestatic 64, 3, 184, 1491) :: T264_7
def T264_5 : List Tok := (.ldc_w 303, 3, 7, 1810) :: T264_6
def T264_4 : List Tok := (.iconst 0, 1, 0, 0) :: T264_5
def T264_3 : List Tok := (.iload_n 2, 1, 0, 0) :: T264_4
def T264_2 : List Tok := (.ifCond .eq 18, 3, 0, 0) :: T264_3
def T264_1 : List Tok := (.invokestatic 229, 3, 187, 1676) :: T264_2
def T264_0 : List Tok := (.iload_n 1, 1, 0, 0) :: T264_1
theorem o264_0 (hB : BytesOK) : okL 264 0 T264_0 = true := by
  have h := hB.1 264
  rw [show tk 264 = T264_0 from by decide +kernel] at h
  exact h
theorem o264_1 (hB : BytesOK) : okL 264 1 T264_1 = true := (okL_c (o264_0 hB)).2.2
theorem o264_2 (hB : BytesOK) : okL 264 4 T264_2 = true := (okL_c (o264_1 hB)).2.2
theorem o264_3 (hB : BytesOK) : okL 264 7 T264_3 = true := (okL_c (o264_2 hB)).2.2
theorem o264_4 (hB : BytesOK) : okL 264 8 T264_4 = true := (okL_c (o264_3 hB)).2.2
theorem o264_5 (hB : BytesOK) : okL 264 9 T264_5 = true := (okL_c (o264_4 hB)).2.2
theorem o264_6 (hB : BytesOK) : okL 264 12 T264_6 = true := (okL_c (o264_5 hB)).2.2
theorem o264_7 (hB : BytesOK) : okL 264 15 T264_7 = true := (okL_c (o264_6 hB)).2.2
theorem o264_8 (hB : BytesOK) : okL 264 18 T264_8 = true := (okL_c (o264_7 hB)).2.2
theorem o264_9 (hB : BytesOK) : okL 264 19 T264_9 = true := (okL_c (o264_8 hB)).2.2
theorem o264_10 (hB : BytesOK) : okL 264 22 T264_10 = true := (okL_c (o264_9 hB)).2.2
theorem o264_11 (hB : BytesOK) : okL 264 23 T264_11 = true := (okL_c (o264_10 hB)).2.2
theorem o264_12 (hB : BytesOK) : okL 264 24 T264_12 = true := (okL_c (o264_11 hB)).2.2
theorem o264_13 (hB : BytesOK) : okL 264 25 T264_13 = true := (okL_c (o264_12 hB)).2.2
theorem o264_14 (hB : BytesOK) : okL 264 27 T264_14 = true := (okL_c (o264_13 hB)).2.2
theorem o264_15 (hB : BytesOK) : okL 264 29 T264_15 = true := (okL_c (o264_14 hB)).2.2
theorem o264_16 (hB : BytesOK) : okL 264 32 T264_16 = true := (okL_c (o264_15 hB)).2.2
theorem o264_17 (hB : BytesOK) : okL 264 33 T264_17 = true := (okL_c (o264_16 hB)).2.2
theorem o264_18 (hB : BytesOK) : okL 264 36 T264_18 = true := (okL_c (o264_17 hB)).2.2
theorem o264_19 (hB : BytesOK) : okL 264 38 T264_19 = true := (okL_c (o264_18 hB)).2.2
theorem o264_20 (hB : BytesOK) : okL 264 40 T264_20 = true := (okL_c (o264_19 hB)).2.2
theorem o264_21 (hB : BytesOK) : okL 264 41 T264_21 = true := (okL_c (o264_20 hB)).2.2
theorem o264_22 (hB : BytesOK) : okL 264 42 T264_22 = true := (okL_c (o264_21 hB)).2.2
theorem o264_23 (hB : BytesOK) : okL 264 45 T264_23 = true := (okL_c (o264_22 hB)).2.2
theorem o264_24 (hB : BytesOK) : okL 264 46 T264_24 = true := (okL_c (o264_23 hB)).2.2
theorem o264_25 (hB : BytesOK) : okL 264 49 T264_25 = true := (okL_c (o264_24 hB)).2.2
theorem o264_26 (hB : BytesOK) : okL 264 50 T264_26 = true := (okL_c (o264_25 hB)).2.2
theorem o264_27 (hB : BytesOK) : okL 264 51 T264_27 = true := (okL_c (o264_26 hB)).2.2
theorem o264_28 (hB : BytesOK) : okL 264 53 T264_28 = true := (okL_c (o264_27 hB)).2.2
theorem o264_29 (hB : BytesOK) : okL 264 55 T264_29 = true := (okL_c (o264_28 hB)).2.2
theorem o264_30 (hB : BytesOK) : okL 264 56 T264_30 = true := (okL_c (o264_29 hB)).2.2
theorem o264_31 (hB : BytesOK) : okL 264 58 T264_31 = true := (okL_c (o264_30 hB)).2.2
theorem o264_32 (hB : BytesOK) : okL 264 61 T264_32 = true := (okL_c (o264_31 hB)).2.2
theorem o264_33 (hB : BytesOK) : okL 264 62 T264_33 = true := (okL_c (o264_32 hB)).2.2
theorem o264_34 (hB : BytesOK) : okL 264 65 T264_34 = true := (okL_c (o264_33 hB)).2.2
theorem o264_35 (hB : BytesOK) : okL 264 66 T264_35 = true := (okL_c (o264_34 hB)).2.2
theorem o264_36 (hB : BytesOK) : okL 264 67 T264_36 = true := (okL_c (o264_35 hB)).2.2
theorem o264_37 (hB : BytesOK) : okL 264 68 T264_37 = true := (okL_c (o264_36 hB)).2.2
theorem o264_38 (hB : BytesOK) : okL 264 71 T264_38 = true := (okL_c (o264_37 hB)).2.2
theorem o264_39 (hB : BytesOK) : okL 264 74 T264_39 = true := (okL_c (o264_38 hB)).2.2
theorem o264_40 (hB : BytesOK) : okL 264 75 T264_40 = true := (okL_c (o264_39 hB)).2.2
theorem o264_41 (hB : BytesOK) : okL 264 76 T264_41 = true := (okL_c (o264_40 hB)).2.2
theorem o264_42 (hB : BytesOK) : okL 264 77 T264_42 = true := (okL_c (o264_41 hB)).2.2
theorem o264_43 (hB : BytesOK) : okL 264 79 T264_43 = true := (okL_c (o264_42 hB)).2.2
theorem o264_44 (hB : BytesOK) : okL 264 80 T264_44 = true := (okL_c (o264_43 hB)).2.2
theorem o264_45 (hB : BytesOK) : okL 264 83 T264_45 = true := (okL_c (o264_44 hB)).2.2
theorem o264_46 (hB : BytesOK) : okL 264 86 T264_46 = true := (okL_c (o264_45 hB)).2.2
theorem o264_47 (hB : BytesOK) : okL 264 87 T264_47 = true := (okL_c (o264_46 hB)).2.2
theorem o264_48 (hB : BytesOK) : okL 264 88 T264_48 = true := (okL_c (o264_47 hB)).2.2
theorem o264_49 (hB : BytesOK) : okL 264 89 T264_49 = true := (okL_c (o264_48 hB)).2.2
theorem o264_50 (hB : BytesOK) : okL 264 90 T264_50 = true := (okL_c (o264_49 hB)).2.2
theorem o264_51 (hB : BytesOK) : okL 264 92 T264_51 = true := (okL_c (o264_50 hB)).2.2
theorem ml264 : mml 264 = 5 := by decide +kernel
theorem mr264 : mret 264 = some .int := by decide +kernel
theorem mg264 : kGood 264 = true := by decide +kernel

def T265_36 : List Tok := []
def T265_35 : List Tok := (.ireturn, 1, 0, 0) :: T265_36
def T265_34 : List Tok := (.iload 4, 2, 0, 0) :: T265_35
def T265_33 : List Tok := (.iastore, 1, 0, 0) :: T265_34
def T265_32 : List Tok := (.iconst 0, 1, 0, 0) :: T265_33
def T265_31 : List Tok := (.goto 4, 3, 0, 0) :: T265_32
def T265_30 : List Tok := (.iconst 1, 1, 0, 0) :: T265_31
def T265_29 : List Tok := (.ifCond .eq 7, 3, 0, 0) :: T265_30
def T265_28 : List Tok := (.iload_n 3, 1, 0, 0) :: T265_29
def T265_27 : List Tok := (.iadd, 1, 0, 0) :: T265_28
def T265_26 : List Tok := (.iload_n 2, 1, 0, 0) :: T265_27
def T265_25 : List Tok := (.iadd, 1, 0, 0) :: T265_26
def T265_24 : List Tok := (.imul, 1, 0, 0) :: T265_25
def T265_23 : List Tok := (.iload_n 1, 1, 0, 0) :: T265_24
def T265_22 : List Tok := (.bipush 6, 2, 0, 0) :: T265_23
def T265_21 : List Tok := (.sipush 588, 3, 0, 0) :: T265_22
def T265_20 : List Tok := (.getfield 7, 3, 704, 1345) :: T265_21
def T265_19 : List Tok := (.aload_n 0, 1, 0, 0) :: T265_20
def T265_18 : List Tok := (.istore 4, 2, 0, 0) :: T265_19
def T265_17 : List Tok := (.iaload, 1, 0, 0) :: T265_18
def T265_16 : List Tok := (.iadd, 1, 0, 0) :: T265_17
def T265_15 : List Tok := (.iload_n 2, 1, 0, 0) :: T265_16
def T265_14 : List Tok := (.iadd, 1, 0, 0) :: T265_15
def T265_13 : List Tok := (.imul, 1, 0, 0) :: T265_14
def T265_12 : List Tok := (.iload_n 1, 1, 0, 0) :: T265_13
def T265_11 : List Tok := (.bipush 6, 2, 0, 0) :: T265_12
def T265_10 : List Tok := (.sipush 588, 3, 0, 0) :: T265_11
def T265_9 : List Tok := (.getfield 7, 3, 704, 1345) :: T265_10
def T265_8 : List Tok := (.aload_n 0, 1, 0, 0) :: T265_9
def T265_7 : List Tok := (.ireturn, 1, 0, 0) :: T265_8
def T265_6 : List Tok := (.iconst (-1), 1, 0, 0) :: T265_7
def T265_5 : List Tok := (.ifCond .ne 5, 3, 0, 0) :: T265_6
def T265_4 : List Tok := (.invokestatic 229, 3, 187, 1676) :: T265_5
def T265_3 : List Tok := (.iload_n 2, 1, 0, 0) :: T265_4
def T265_2 : List Tok := (.ifCond .eq 10, 3, 0, 0) :: T265_3
def T265_1 : List Tok := (.invokestatic 85, 3, 186, 1528) :: T265_2
def T265_0 : List Tok := (.iload_n 1, 1, 0, 0) :: T265_1
theorem o265_0 (hB : BytesOK) : okL 265 0 T265_0 = true := by
  have h := hB.1 265
  rw [show tk 265 = T265_0 from by decide +kernel] at h
  exact h
theorem o265_1 (hB : BytesOK) : okL 265 1 T265_1 = true := (okL_c (o265_0 hB)).2.2
theorem o265_2 (hB : BytesOK) : okL 265 4 T265_2 = true := (okL_c (o265_1 hB)).2.2
theorem o265_3 (hB : BytesOK) : okL 265 7 T265_3 = true := (okL_c (o265_2 hB)).2.2
theorem o265_4 (hB : BytesOK) : okL 265 8 T265_4 = true := (okL_c (o265_3 hB)).2.2
theorem o265_5 (hB : BytesOK) : okL 265 11 T265_5 = true := (okL_c (o265_4 hB)).2.2
theorem o265_6 (hB : BytesOK) : okL 265 14 T265_6 = true := (okL_c (o265_5 hB)).2.2
theorem o265_7 (hB : BytesOK) : okL 265 15 T265_7 = true := (okL_c (o265_6 hB)).2.2
theorem o265_8 (hB : BytesOK) : okL 265 16 T265_8 = true := (okL_c (o265_7 hB)).2.2
theorem o265_9 (hB : BytesOK) : okL 265 17 T265_9 = true := (okL_c (o265_8 hB)).2.2
theorem o265_10 (hB : BytesOK) : okL 265 20 T265_10 = true := (okL_c (o265_9 hB)).2.2
theorem o265_11 (hB : BytesOK) : okL 265 23 T265_11 = true := (okL_c (o265_10 hB)).2.2
theorem o265_12 (hB : BytesOK) : okL 265 25 T265_12 = true := (okL_c (o265_11 hB)).2.2
theorem o265_13 (hB : BytesOK) : okL 265 26 T265_13 = true := (okL_c (o265_12 hB)).2.2
theorem o265_14 (hB : BytesOK) : okL 265 27 T265_14 = true := (okL_c (o265_13 hB)).2.2
theorem o265_15 (hB : BytesOK) : okL 265 28 T265_15 = true := (okL_c (o265_14 hB)).2.2
theorem o265_16 (hB : BytesOK) : okL 265 29 T265_16 = true := (okL_c (o265_15 hB)).2.2
theorem o265_17 (hB : BytesOK) : okL 265 30 T265_17 = true := (okL_c (o265_16 hB)).2.2
theorem o265_18 (hB : BytesOK) : okL 265 31 T265_18 = true := (okL_c (o265_17 hB)).2.2
theorem o265_19 (hB : BytesOK) : okL 265 33 T265_19 = true := (okL_c (o265_18 hB)).2.2
theorem o265_20 (hB : BytesOK) : okL 265 34 T265_20 = true := (okL_c (o265_19 hB)).2.2
theorem o265_21 (hB : BytesOK) : okL 265 37 T265_21 = true := (okL_c (o265_20 hB)).2.2
theorem o265_22 (hB : BytesOK) : okL 265 40 T265_22 = true := (okL_c (o265_21 hB)).2.2
theorem o265_23 (hB : BytesOK) : okL 265 42 T265_23 = true := (okL_c (o265_22 hB)).2.2
theorem o265_24 (hB : BytesOK) : okL 265 43 T265_24 = true := (okL_c (o265_23 hB)).2.2
theorem o265_25 (hB : BytesOK) : okL 265 44 T265_25 = true := (okL_c (o265_24 hB)).2.2
theorem o265_26 (hB : BytesOK) : okL 265 45 T265_26 = true := (okL_c (o265_25 hB)).2.2
theorem o265_27 (hB : BytesOK) : okL 265 46 T265_27 = true := (okL_c (o265_26 hB)).2.2
theorem o265_28 (hB : BytesOK) : okL 265 47 T265_28 = true := (okL_c (o265_27 hB)).2.2
theorem o265_29 (hB : BytesOK) : okL 265 48 T265_29 = true := (okL_c (o265_28 hB)).2.2
theorem o265_30 (hB : BytesOK) : okL 265 51 T265_30 = true := (okL_c (o265_29 hB)).2.2
theorem o265_31 (hB : BytesOK) : okL 265 52 T265_31 = true := (okL_c (o265_30 hB)).2.2
theorem o265_32 (hB : BytesOK) : okL 265 55 T265_32 = true := (okL_c (o265_31 hB)).2.2
theorem o265_33 (hB : BytesOK) : okL 265 56 T265_33 = true := (okL_c (o265_32 hB)).2.2
theorem o265_34 (hB : BytesOK) : okL 265 57 T265_34 = true := (okL_c (o265_33 hB)).2.2
theorem o265_35 (hB : BytesOK) : okL 265 59 T265_35 = true := (okL_c (o265_34 hB)).2.2
theorem ml265 : mml 265 = 5 := by decide +kernel
theorem mr265 : mret 265 = some .int := by decide +kernel
theorem mg265 : kGood 265 = true := by decide +kernel

def T300_7 : List Tok := []
def T300_6 : List Tok := (.ireturn, 1, 0, 0) :: T300_7
def T300_5 : List Tok := (.iload_n 1, 1, 0, 0) :: T300_6
def T300_4 : List Tok := (.goto 4, 3, 0, 0) :: T300_5
def T300_3 : List Tok := (.iload_n 0, 1, 0, 0) :: T300_4
def T300_2 : List Tok := (.if_icmp .gt 7, 3, 0, 0) :: T300_3
def T300_1 : List Tok := (.iload_n 1, 1, 0, 0) :: T300_2
def T300_0 : List Tok := (.iload_n 0, 1, 0, 0) :: T300_1
theorem o300_0 (hB : BytesOK) : okL 300 0 T300_0 = true := by
  have h := hB.1 300
  rw [show tk 300 = T300_0 from by decide +kernel] at h
  exact h
theorem o300_1 (hB : BytesOK) : okL 300 1 T300_1 = true := (okL_c (o300_0 hB)).2.2
theorem o300_2 (hB : BytesOK) : okL 300 2 T300_2 = true := (okL_c (o300_1 hB)).2.2
theorem o300_3 (hB : BytesOK) : okL 300 5 T300_3 = true := (okL_c (o300_2 hB)).2.2
theorem o300_4 (hB : BytesOK) : okL 300 6 T300_4 = true := (okL_c (o300_3 hB)).2.2
theorem o300_5 (hB : BytesOK) : okL 300 9 T300_5 = true := (okL_c (o300_4 hB)).2.2
theorem o300_6 (hB : BytesOK) : okL 300 10 T300_6 = true := (okL_c (o300_5 hB)).2.2
theorem ml300 : mml 300 = 2 := by decide +kernel
theorem mr300 : mret 300 = some .int := by decide +kernel
theorem mg300 : kGood 300 = true := by decide +kernel
