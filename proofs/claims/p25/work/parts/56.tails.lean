/-! THE METHODS' INSTRUCTIONS -/
def T18_15 : List Tok := []
def T18_14 : List Tok := (.return_, 1, 0, 0) :: T18_15
def T18_13 : List Tok := (.invokestatic 30, 3, 178, 300000) :: T18_14
def T18_12 : List Tok := (.getfield 15, 3, 66, 201) :: T18_13
def T18_11 : List Tok := (.aload_n 0, 1, 0, 0) :: T18_12
def T18_10 : List Tok := (.getfield 15, 3, 66, 201) :: T18_11
def T18_9 : List Tok := (.aload_n 1, 1, 0, 0) :: T18_10
def T18_8 : List Tok := (.invokestatic 30, 3, 178, 300000) :: T18_9
def T18_7 : List Tok := (.getfield 9, 3, 65, 200) :: T18_8
def T18_6 : List Tok := (.aload_n 0, 1, 0, 0) :: T18_7
def T18_5 : List Tok := (.getfield 9, 3, 65, 200) :: T18_6
def T18_4 : List Tok := (.aload_n 1, 1, 0, 0) :: T18_5
def T18_3 : List Tok := (.putfield 22, 3, 64, 198) :: T18_4
def T18_2 : List Tok := (.getfield 22, 3, 64, 198) :: T18_3
def T18_1 : List Tok := (.aload_n 1, 1, 0, 0) :: T18_2
def T18_0 : List Tok := (.aload_n 0, 1, 0, 0) :: T18_1
theorem o18_0 (hB : BytesOK) : okL 18 0 T18_0 = true := by
  have h := hB.1 18
  rw [show tk 18 = T18_0 from by decide +kernel] at h
  exact h
theorem o18_1 (hB : BytesOK) : okL 18 1 T18_1 = true := (okL_c (o18_0 hB)).2.2
theorem o18_2 (hB : BytesOK) : okL 18 2 T18_2 = true := (okL_c (o18_1 hB)).2.2
theorem o18_3 (hB : BytesOK) : okL 18 5 T18_3 = true := (okL_c (o18_2 hB)).2.2
theorem o18_4 (hB : BytesOK) : okL 18 8 T18_4 = true := (okL_c (o18_3 hB)).2.2
theorem o18_5 (hB : BytesOK) : okL 18 9 T18_5 = true := (okL_c (o18_4 hB)).2.2
theorem o18_6 (hB : BytesOK) : okL 18 12 T18_6 = true := (okL_c (o18_5 hB)).2.2
theorem o18_7 (hB : BytesOK) : okL 18 13 T18_7 = true := (okL_c (o18_6 hB)).2.2
theorem o18_8 (hB : BytesOK) : okL 18 16 T18_8 = true := (okL_c (o18_7 hB)).2.2
theorem o18_9 (hB : BytesOK) : okL 18 19 T18_9 = true := (okL_c (o18_8 hB)).2.2
theorem o18_10 (hB : BytesOK) : okL 18 20 T18_10 = true := (okL_c (o18_9 hB)).2.2
theorem o18_11 (hB : BytesOK) : okL 18 23 T18_11 = true := (okL_c (o18_10 hB)).2.2
theorem o18_12 (hB : BytesOK) : okL 18 24 T18_12 = true := (okL_c (o18_11 hB)).2.2
theorem o18_13 (hB : BytesOK) : okL 18 27 T18_13 = true := (okL_c (o18_12 hB)).2.2
theorem o18_14 (hB : BytesOK) : okL 18 30 T18_14 = true := (okL_c (o18_13 hB)).2.2
theorem ml18 : mml 18 = 2 := by decide +kernel
theorem mr18 : mret 18 = none := by decide +kernel
theorem mg18 : kGood 18 = true := by decide +kernel

def T43_49 : List Tok := []
def T43_48 : List Tok := (.return_, 1, 0, 0) :: T43_49
def T43_47 : List Tok := (.goto (-39), 3, 0, 0) :: T43_48
def T43_46 : List Tok := (.iinc 2 1, 3, 0, 0) :: T43_47
def T43_45 : List Tok := (.invokevirtual 84, 3, 105, 818) :: T43_46
def T43_44 : List Tok := (.aload 4, 2, 0, 0) :: T43_45
def T43_43 : List Tok := (.aload_n 3, 1, 0, 0) :: T43_44
def T43_42 : List Tok := (.ifnull 9, 3, 0, 0) :: T43_43
def T43_41 : List Tok := (.aload 4, 2, 0, 0) :: T43_42
def T43_40 : List Tok := (.ifnull 14, 3, 0, 0) :: T43_41
def T43_39 : List Tok := (.aload_n 3, 1, 0, 0) :: T43_40
def T43_38 : List Tok := (.astore 4, 2, 0, 0) :: T43_39
def T43_37 : List Tok := (.aaload, 1, 0, 0) :: T43_38
def T43_36 : List Tok := (.iload_n 2, 1, 0, 0) :: T43_37
def T43_35 : List Tok := (.getfield 41, 3, 133, 375) :: T43_36
def T43_34 : List Tok := (.aload_n 1, 1, 0, 0) :: T43_35
def T43_33 : List Tok := (.astore_n 3, 1, 0, 0) :: T43_34
def T43_32 : List Tok := (.aaload, 1, 0, 0) :: T43_33
def T43_31 : List Tok := (.iload_n 2, 1, 0, 0) :: T43_32
def T43_30 : List Tok := (.getfield 41, 3, 133, 375) :: T43_31
def T43_29 : List Tok := (.aload_n 0, 1, 0, 0) :: T43_30
def T43_28 : List Tok := (.if_icmp .ge 39, 3, 0, 0) :: T43_29
def T43_27 : List Tok := (.bipush 6, 2, 0, 0) :: T43_28
def T43_26 : List Tok := (.iload_n 2, 1, 0, 0) :: T43_27
def T43_25 : List Tok := (.istore_n 2, 1, 0, 0) :: T43_26
def T43_24 : List Tok := (.iconst 0, 1, 0, 0) :: T43_25
def T43_23 : List Tok := (.putfield 81, 3, 132, 373) :: T43_24
def T43_22 : List Tok := (.getfield 81, 3, 132, 373) :: T43_23
def T43_21 : List Tok := (.aload_n 1, 1, 0, 0) :: T43_22
def T43_20 : List Tok := (.aload_n 0, 1, 0, 0) :: T43_21
def T43_19 : List Tok := (.invokevirtual 237, 3, 79, 1330) :: T43_20
def T43_18 : List Tok := (.getfield 35, 3, 131, 371) :: T43_19
def T43_17 : List Tok := (.aload_n 1, 1, 0, 0) :: T43_18
def T43_16 : List Tok := (.getfield 35, 3, 131, 371) :: T43_17
def T43_15 : List Tok := (.aload_n 0, 1, 0, 0) :: T43_16
def T43_14 : List Tok := (.invokevirtual 234, 3, 121, 1325) :: T43_15
def T43_13 : List Tok := (.getfield 28, 3, 130, 369) :: T43_14
def T43_12 : List Tok := (.aload_n 1, 1, 0, 0) :: T43_13
def T43_11 : List Tok := (.getfield 28, 3, 130, 369) :: T43_12
def T43_10 : List Tok := (.aload_n 0, 1, 0, 0) :: T43_11
def T43_9 : List Tok := (.invokevirtual 231, 3, 18, 1320) :: T43_10
def T43_8 : List Tok := (.getfield 21, 3, 129, 367) :: T43_9
def T43_7 : List Tok := (.aload_n 1, 1, 0, 0) :: T43_8
def T43_6 : List Tok := (.getfield 21, 3, 129, 367) :: T43_7
def T43_5 : List Tok := (.aload_n 0, 1, 0, 0) :: T43_6
def T43_4 : List Tok := (.invokevirtual 228, 3, 57, 1315) :: T43_5
def T43_3 : List Tok := (.getfield 12, 3, 128, 364) :: T43_4
def T43_2 : List Tok := (.aload_n 1, 1, 0, 0) :: T43_3
def T43_1 : List Tok := (.getfield 12, 3, 128, 364) :: T43_2
def T43_0 : List Tok := (.aload_n 0, 1, 0, 0) :: T43_1
theorem o43_0 (hB : BytesOK) : okL 43 0 T43_0 = true := by
  have h := hB.1 43
  rw [show tk 43 = T43_0 from by decide +kernel] at h
  exact h
theorem o43_1 (hB : BytesOK) : okL 43 1 T43_1 = true := (okL_c (o43_0 hB)).2.2
theorem o43_2 (hB : BytesOK) : okL 43 4 T43_2 = true := (okL_c (o43_1 hB)).2.2
theorem o43_3 (hB : BytesOK) : okL 43 5 T43_3 = true := (okL_c (o43_2 hB)).2.2
theorem o43_4 (hB : BytesOK) : okL 43 8 T43_4 = true := (okL_c (o43_3 hB)).2.2
theorem o43_5 (hB : BytesOK) : okL 43 11 T43_5 = true := (okL_c (o43_4 hB)).2.2
theorem o43_6 (hB : BytesOK) : okL 43 12 T43_6 = true := (okL_c (o43_5 hB)).2.2
theorem o43_7 (hB : BytesOK) : okL 43 15 T43_7 = true := (okL_c (o43_6 hB)).2.2
theorem o43_8 (hB : BytesOK) : okL 43 16 T43_8 = true := (okL_c (o43_7 hB)).2.2
theorem o43_9 (hB : BytesOK) : okL 43 19 T43_9 = true := (okL_c (o43_8 hB)).2.2
theorem o43_10 (hB : BytesOK) : okL 43 22 T43_10 = true := (okL_c (o43_9 hB)).2.2
theorem o43_11 (hB : BytesOK) : okL 43 23 T43_11 = true := (okL_c (o43_10 hB)).2.2
theorem o43_12 (hB : BytesOK) : okL 43 26 T43_12 = true := (okL_c (o43_11 hB)).2.2
theorem o43_13 (hB : BytesOK) : okL 43 27 T43_13 = true := (okL_c (o43_12 hB)).2.2
theorem o43_14 (hB : BytesOK) : okL 43 30 T43_14 = true := (okL_c (o43_13 hB)).2.2
theorem o43_15 (hB : BytesOK) : okL 43 33 T43_15 = true := (okL_c (o43_14 hB)).2.2
theorem o43_16 (hB : BytesOK) : okL 43 34 T43_16 = true := (okL_c (o43_15 hB)).2.2
theorem o43_17 (hB : BytesOK) : okL 43 37 T43_17 = true := (okL_c (o43_16 hB)).2.2
theorem o43_18 (hB : BytesOK) : okL 43 38 T43_18 = true := (okL_c (o43_17 hB)).2.2
theorem o43_19 (hB : BytesOK) : okL 43 41 T43_19 = true := (okL_c (o43_18 hB)).2.2
theorem o43_20 (hB : BytesOK) : okL 43 44 T43_20 = true := (okL_c (o43_19 hB)).2.2
theorem o43_21 (hB : BytesOK) : okL 43 45 T43_21 = true := (okL_c (o43_20 hB)).2.2
theorem o43_22 (hB : BytesOK) : okL 43 46 T43_22 = true := (okL_c (o43_21 hB)).2.2
theorem o43_23 (hB : BytesOK) : okL 43 49 T43_23 = true := (okL_c (o43_22 hB)).2.2
theorem o43_24 (hB : BytesOK) : okL 43 52 T43_24 = true := (okL_c (o43_23 hB)).2.2
theorem o43_25 (hB : BytesOK) : okL 43 53 T43_25 = true := (okL_c (o43_24 hB)).2.2
theorem o43_26 (hB : BytesOK) : okL 43 54 T43_26 = true := (okL_c (o43_25 hB)).2.2
theorem o43_27 (hB : BytesOK) : okL 43 55 T43_27 = true := (okL_c (o43_26 hB)).2.2
theorem o43_28 (hB : BytesOK) : okL 43 57 T43_28 = true := (okL_c (o43_27 hB)).2.2
theorem o43_29 (hB : BytesOK) : okL 43 60 T43_29 = true := (okL_c (o43_28 hB)).2.2
theorem o43_30 (hB : BytesOK) : okL 43 61 T43_30 = true := (okL_c (o43_29 hB)).2.2
theorem o43_31 (hB : BytesOK) : okL 43 64 T43_31 = true := (okL_c (o43_30 hB)).2.2
theorem o43_32 (hB : BytesOK) : okL 43 65 T43_32 = true := (okL_c (o43_31 hB)).2.2
theorem o43_33 (hB : BytesOK) : okL 43 66 T43_33 = true := (okL_c (o43_32 hB)).2.2
theorem o43_34 (hB : BytesOK) : okL 43 67 T43_34 = true := (okL_c (o43_33 hB)).2.2
theorem o43_35 (hB : BytesOK) : okL 43 68 T43_35 = true := (okL_c (o43_34 hB)).2.2
theorem o43_36 (hB : BytesOK) : okL 43 71 T43_36 = true := (okL_c (o43_35 hB)).2.2
theorem o43_37 (hB : BytesOK) : okL 43 72 T43_37 = true := (okL_c (o43_36 hB)).2.2
theorem o43_38 (hB : BytesOK) : okL 43 73 T43_38 = true := (okL_c (o43_37 hB)).2.2
theorem o43_39 (hB : BytesOK) : okL 43 75 T43_39 = true := (okL_c (o43_38 hB)).2.2
theorem o43_40 (hB : BytesOK) : okL 43 76 T43_40 = true := (okL_c (o43_39 hB)).2.2
theorem o43_41 (hB : BytesOK) : okL 43 79 T43_41 = true := (okL_c (o43_40 hB)).2.2
theorem o43_42 (hB : BytesOK) : okL 43 81 T43_42 = true := (okL_c (o43_41 hB)).2.2
theorem o43_43 (hB : BytesOK) : okL 43 84 T43_43 = true := (okL_c (o43_42 hB)).2.2
theorem o43_44 (hB : BytesOK) : okL 43 85 T43_44 = true := (okL_c (o43_43 hB)).2.2
theorem o43_45 (hB : BytesOK) : okL 43 87 T43_45 = true := (okL_c (o43_44 hB)).2.2
theorem o43_46 (hB : BytesOK) : okL 43 90 T43_46 = true := (okL_c (o43_45 hB)).2.2
theorem o43_47 (hB : BytesOK) : okL 43 93 T43_47 = true := (okL_c (o43_46 hB)).2.2
theorem o43_48 (hB : BytesOK) : okL 43 96 T43_48 = true := (okL_c (o43_47 hB)).2.2
theorem ml43 : mml 43 = 5 := by decide +kernel
theorem mr43 : mret 43 = none := by decide +kernel
theorem mg43 : kGood 43 = true := by decide +kernel

def T57_88 : List Tok := []
def T57_87 : List Tok := (.return_, 1, 0, 0) :: T57_88
def T57_86 : List Tok := (.invokestatic 97, 3, 178, 300000) :: T57_87
def T57_85 : List Tok := (.getfield 42, 3, 210, 151) :: T57_86
def T57_84 : List Tok := (.aload_n 0, 1, 0, 0) :: T57_85
def T57_83 : List Tok := (.getfield 42, 3, 210, 151) :: T57_84
def T57_82 : List Tok := (.aload_n 1, 1, 0, 0) :: T57_83
def T57_81 : List Tok := (.invokestatic 97, 3, 178, 300000) :: T57_82
def T57_80 : List Tok := (.getfield 39, 3, 209, 150) :: T57_81
def T57_79 : List Tok := (.aload_n 0, 1, 0, 0) :: T57_80
def T57_78 : List Tok := (.getfield 39, 3, 209, 150) :: T57_79
def T57_77 : List Tok := (.aload_n 1, 1, 0, 0) :: T57_78
def T57_76 : List Tok := (.putfield 82, 3, 208, 149) :: T57_77
def T57_75 : List Tok := (.getfield 82, 3, 208, 149) :: T57_76
def T57_74 : List Tok := (.aload_n 1, 1, 0, 0) :: T57_75
def T57_73 : List Tok := (.aload_n 0, 1, 0, 0) :: T57_74
def T57_72 : List Tok := (.putfield 75, 3, 207, 148) :: T57_73
def T57_71 : List Tok := (.getfield 75, 3, 207, 148) :: T57_72
def T57_70 : List Tok := (.aload_n 1, 1, 0, 0) :: T57_71
def T57_69 : List Tok := (.aload_n 0, 1, 0, 0) :: T57_70
def T57_68 : List Tok := (.invokestatic 97, 3, 178, 300000) :: T57_69
def T57_67 : List Tok := (.getfield 36, 3, 206, 147) :: T57_68
def T57_66 : List Tok := (.aload_n 0, 1, 0, 0) :: T57_67
def T57_65 : List Tok := (.getfield 36, 3, 206, 147) :: T57_66
def T57_64 : List Tok := (.aload_n 1, 1, 0, 0) :: T57_65
def T57_63 : List Tok := (.invokestatic 97, 3, 178, 300000) :: T57_64
def T57_62 : List Tok := (.getfield 33, 3, 205, 146) :: T57_63
def T57_61 : List Tok := (.aload_n 0, 1, 0, 0) :: T57_62
def T57_60 : List Tok := (.getfield 33, 3, 205, 146) :: T57_61
def T57_59 : List Tok := (.aload_n 1, 1, 0, 0) :: T57_60
def T57_58 : List Tok := (.putfield 65, 3, 204, 145) :: T57_59
def T57_57 : List Tok := (.getfield 65, 3, 204, 145) :: T57_58
def T57_56 : List Tok := (.aload_n 1, 1, 0, 0) :: T57_57
def T57_55 : List Tok := (.aload_n 0, 1, 0, 0) :: T57_56
def T57_54 : List Tok := (.putfield 59, 3, 203, 143) :: T57_55
def T57_53 : List Tok := (.getfield 59, 3, 203, 143) :: T57_54
def T57_52 : List Tok := (.aload_n 1, 1, 0, 0) :: T57_53
def T57_51 : List Tok := (.aload_n 0, 1, 0, 0) :: T57_52
def T57_50 : List Tok := (.putfield 88, 3, 202, 142) :: T57_51
def T57_49 : List Tok := (.getfield 88, 3, 202, 142) :: T57_50
def T57_48 : List Tok := (.aload_n 1, 1, 0, 0) :: T57_49
def T57_47 : List Tok := (.aload_n 0, 1, 0, 0) :: T57_48
def T57_46 : List Tok := (.putfield 85, 3, 201, 141) :: T57_47
def T57_45 : List Tok := (.getfield 85, 3, 201, 141) :: T57_46
def T57_44 : List Tok := (.aload_n 1, 1, 0, 0) :: T57_45
def T57_43 : List Tok := (.aload_n 0, 1, 0, 0) :: T57_44
def T57_42 : List Tok := (.invokestatic 97, 3, 178, 300000) :: T57_43
def T57_41 : List Tok := (.getfield 30, 3, 200, 139) :: T57_42
def T57_40 : List Tok := (.aload_n 0, 1, 0, 0) :: T57_41
def T57_39 : List Tok := (.getfield 30, 3, 200, 139) :: T57_40
def T57_38 : List Tok := (.aload_n 1, 1, 0, 0) :: T57_39
def T57_37 : List Tok := (.invokestatic 97, 3, 178, 300000) :: T57_38
def T57_36 : List Tok := (.getfield 27, 3, 199, 136) :: T57_37
def T57_35 : List Tok := (.aload_n 0, 1, 0, 0) :: T57_36
def T57_34 : List Tok := (.getfield 27, 3, 199, 136) :: T57_35
def T57_33 : List Tok := (.aload_n 1, 1, 0, 0) :: T57_34
def T57_32 : List Tok := (.invokestatic 97, 3, 178, 300000) :: T57_33
def T57_31 : List Tok := (.getfield 24, 3, 198, 135) :: T57_32
def T57_30 : List Tok := (.aload_n 0, 1, 0, 0) :: T57_31
def T57_29 : List Tok := (.getfield 24, 3, 198, 135) :: T57_30
def T57_28 : List Tok := (.aload_n 1, 1, 0, 0) :: T57_29
def T57_27 : List Tok := (.invokestatic 97, 3, 178, 300000) :: T57_28
def T57_26 : List Tok := (.getfield 21, 3, 197, 134) :: T57_27
def T57_25 : List Tok := (.aload_n 0, 1, 0, 0) :: T57_26
def T57_24 : List Tok := (.getfield 21, 3, 197, 134) :: T57_25
def T57_23 : List Tok := (.aload_n 1, 1, 0, 0) :: T57_24
def T57_22 : List Tok := (.invokestatic 97, 3, 178, 300000) :: T57_23
def T57_21 : List Tok := (.getfield 18, 3, 196, 132) :: T57_22
def T57_20 : List Tok := (.aload_n 0, 1, 0, 0) :: T57_21
def T57_19 : List Tok := (.getfield 18, 3, 196, 132) :: T57_20
def T57_18 : List Tok := (.aload_n 1, 1, 0, 0) :: T57_19
def T57_17 : List Tok := (.invokestatic 97, 3, 178, 300000) :: T57_18
def T57_16 : List Tok := (.getfield 15, 3, 195, 129) :: T57_17
def T57_15 : List Tok := (.aload_n 0, 1, 0, 0) :: T57_16
def T57_14 : List Tok := (.getfield 15, 3, 195, 129) :: T57_15
def T57_13 : List Tok := (.aload_n 1, 1, 0, 0) :: T57_14
def T57_12 : List Tok := (.invokestatic 97, 3, 178, 300000) :: T57_13
def T57_11 : List Tok := (.getfield 9, 3, 194, 127) :: T57_12
def T57_10 : List Tok := (.aload_n 0, 1, 0, 0) :: T57_11
def T57_9 : List Tok := (.getfield 9, 3, 194, 127) :: T57_10
def T57_8 : List Tok := (.aload_n 1, 1, 0, 0) :: T57_9
def T57_7 : List Tok := (.putfield 45, 3, 193, 124) :: T57_8
def T57_6 : List Tok := (.getfield 45, 3, 193, 124) :: T57_7
def T57_5 : List Tok := (.aload_n 1, 1, 0, 0) :: T57_6
def T57_4 : List Tok := (.aload_n 0, 1, 0, 0) :: T57_5
def T57_3 : List Tok := (.putfield 62, 3, 192, 122) :: T57_4
def T57_2 : List Tok := (.getfield 62, 3, 192, 122) :: T57_3
def T57_1 : List Tok := (.aload_n 1, 1, 0, 0) :: T57_2
def T57_0 : List Tok := (.aload_n 0, 1, 0, 0) :: T57_1
theorem o57_0 (hB : BytesOK) : okL 57 0 T57_0 = true := by
  have h := hB.1 57
  rw [show tk 57 = T57_0 from by decide +kernel] at h
  exact h
theorem o57_1 (hB : BytesOK) : okL 57 1 T57_1 = true := (okL_c (o57_0 hB)).2.2
theorem o57_2 (hB : BytesOK) : okL 57 2 T57_2 = true := (okL_c (o57_1 hB)).2.2
theorem o57_3 (hB : BytesOK) : okL 57 5 T57_3 = true := (okL_c (o57_2 hB)).2.2
theorem o57_4 (hB : BytesOK) : okL 57 8 T57_4 = true := (okL_c (o57_3 hB)).2.2
theorem o57_5 (hB : BytesOK) : okL 57 9 T57_5 = true := (okL_c (o57_4 hB)).2.2
theorem o57_6 (hB : BytesOK) : okL 57 10 T57_6 = true := (okL_c (o57_5 hB)).2.2
theorem o57_7 (hB : BytesOK) : okL 57 13 T57_7 = true := (okL_c (o57_6 hB)).2.2
theorem o57_8 (hB : BytesOK) : okL 57 16 T57_8 = true := (okL_c (o57_7 hB)).2.2
theorem o57_9 (hB : BytesOK) : okL 57 17 T57_9 = true := (okL_c (o57_8 hB)).2.2
theorem o57_10 (hB : BytesOK) : okL 57 20 T57_10 = true := (okL_c (o57_9 hB)).2.2
theorem o57_11 (hB : BytesOK) : okL 57 21 T57_11 = true := (okL_c (o57_10 hB)).2.2
theorem o57_12 (hB : BytesOK) : okL 57 24 T57_12 = true := (okL_c (o57_11 hB)).2.2
theorem o57_13 (hB : BytesOK) : okL 57 27 T57_13 = true := (okL_c (o57_12 hB)).2.2
theorem o57_14 (hB : BytesOK) : okL 57 28 T57_14 = true := (okL_c (o57_13 hB)).2.2
theorem o57_15 (hB : BytesOK) : okL 57 31 T57_15 = true := (okL_c (o57_14 hB)).2.2
theorem o57_16 (hB : BytesOK) : okL 57 32 T57_16 = true := (okL_c (o57_15 hB)).2.2
theorem o57_17 (hB : BytesOK) : okL 57 35 T57_17 = true := (okL_c (o57_16 hB)).2.2
theorem o57_18 (hB : BytesOK) : okL 57 38 T57_18 = true := (okL_c (o57_17 hB)).2.2
theorem o57_19 (hB : BytesOK) : okL 57 39 T57_19 = true := (okL_c (o57_18 hB)).2.2
theorem o57_20 (hB : BytesOK) : okL 57 42 T57_20 = true := (okL_c (o57_19 hB)).2.2
theorem o57_21 (hB : BytesOK) : okL 57 43 T57_21 = true := (okL_c (o57_20 hB)).2.2
theorem o57_22 (hB : BytesOK) : okL 57 46 T57_22 = true := (okL_c (o57_21 hB)).2.2
theorem o57_23 (hB : BytesOK) : okL 57 49 T57_23 = true := (okL_c (o57_22 hB)).2.2
theorem o57_24 (hB : BytesOK) : okL 57 50 T57_24 = true := (okL_c (o57_23 hB)).2.2
theorem o57_25 (hB : BytesOK) : okL 57 53 T57_25 = true := (okL_c (o57_24 hB)).2.2
theorem o57_26 (hB : BytesOK) : okL 57 54 T57_26 = true := (okL_c (o57_25 hB)).2.2
theorem o57_27 (hB : BytesOK) : okL 57 57 T57_27 = true := (okL_c (o57_26 hB)).2.2
theorem o57_28 (hB : BytesOK) : okL 57 60 T57_28 = true := (okL_c (o57_27 hB)).2.2
theorem o57_29 (hB : BytesOK) : okL 57 61 T57_29 = true := (okL_c (o57_28 hB)).2.2
theorem o57_30 (hB : BytesOK) : okL 57 64 T57_30 = true := (okL_c (o57_29 hB)).2.2
theorem o57_31 (hB : BytesOK) : okL 57 65 T57_31 = true := (okL_c (o57_30 hB)).2.2
theorem o57_32 (hB : BytesOK) : okL 57 68 T57_32 = true := (okL_c (o57_31 hB)).2.2
theorem o57_33 (hB : BytesOK) : okL 57 71 T57_33 = true := (okL_c (o57_32 hB)).2.2
theorem o57_34 (hB : BytesOK) : okL 57 72 T57_34 = true := (okL_c (o57_33 hB)).2.2
theorem o57_35 (hB : BytesOK) : okL 57 75 T57_35 = true := (okL_c (o57_34 hB)).2.2
theorem o57_36 (hB : BytesOK) : okL 57 76 T57_36 = true := (okL_c (o57_35 hB)).2.2
theorem o57_37 (hB : BytesOK) : okL 57 79 T57_37 = true := (okL_c (o57_36 hB)).2.2
theorem o57_38 (hB : BytesOK) : okL 57 82 T57_38 = true := (okL_c (o57_37 hB)).2.2
theorem o57_39 (hB : BytesOK) : okL 57 83 T57_39 = true := (okL_c (o57_38 hB)).2.2
theorem o57_40 (hB : BytesOK) : okL 57 86 T57_40 = true := (okL_c (o57_39 hB)).2.2
theorem o57_41 (hB : BytesOK) : okL 57 87 T57_41 = true := (okL_c (o57_40 hB)).2.2
theorem o57_42 (hB : BytesOK) : okL 57 90 T57_42 = true := (okL_c (o57_41 hB)).2.2
theorem o57_43 (hB : BytesOK) : okL 57 93 T57_43 = true := (okL_c (o57_42 hB)).2.2
theorem o57_44 (hB : BytesOK) : okL 57 94 T57_44 = true := (okL_c (o57_43 hB)).2.2
theorem o57_45 (hB : BytesOK) : okL 57 95 T57_45 = true := (okL_c (o57_44 hB)).2.2
theorem o57_46 (hB : BytesOK) : okL 57 98 T57_46 = true := (okL_c (o57_45 hB)).2.2
theorem o57_47 (hB : BytesOK) : okL 57 101 T57_47 = true := (okL_c (o57_46 hB)).2.2
theorem o57_48 (hB : BytesOK) : okL 57 102 T57_48 = true := (okL_c (o57_47 hB)).2.2
theorem o57_49 (hB : BytesOK) : okL 57 103 T57_49 = true := (okL_c (o57_48 hB)).2.2
theorem o57_50 (hB : BytesOK) : okL 57 106 T57_50 = true := (okL_c (o57_49 hB)).2.2
theorem o57_51 (hB : BytesOK) : okL 57 109 T57_51 = true := (okL_c (o57_50 hB)).2.2
theorem o57_52 (hB : BytesOK) : okL 57 110 T57_52 = true := (okL_c (o57_51 hB)).2.2
theorem o57_53 (hB : BytesOK) : okL 57 111 T57_53 = true := (okL_c (o57_52 hB)).2.2
theorem o57_54 (hB : BytesOK) : okL 57 114 T57_54 = true := (okL_c (o57_53 hB)).2.2
theorem o57_55 (hB : BytesOK) : okL 57 117 T57_55 = true := (okL_c (o57_54 hB)).2.2
theorem o57_56 (hB : BytesOK) : okL 57 118 T57_56 = true := (okL_c (o57_55 hB)).2.2
theorem o57_57 (hB : BytesOK) : okL 57 119 T57_57 = true := (okL_c (o57_56 hB)).2.2
theorem o57_58 (hB : BytesOK) : okL 57 122 T57_58 = true := (okL_c (o57_57 hB)).2.2
theorem o57_59 (hB : BytesOK) : okL 57 125 T57_59 = true := (okL_c (o57_58 hB)).2.2
theorem o57_60 (hB : BytesOK) : okL 57 126 T57_60 = true := (okL_c (o57_59 hB)).2.2
theorem o57_61 (hB : BytesOK) : okL 57 129 T57_61 = true := (okL_c (o57_60 hB)).2.2
theorem o57_62 (hB : BytesOK) : okL 57 130 T57_62 = true := (okL_c (o57_61 hB)).2.2
theorem o57_63 (hB : BytesOK) : okL 57 133 T57_63 = true := (okL_c (o57_62 hB)).2.2
theorem o57_64 (hB : BytesOK) : okL 57 136 T57_64 = true := (okL_c (o57_63 hB)).2.2
theorem o57_65 (hB : BytesOK) : okL 57 137 T57_65 = true := (okL_c (o57_64 hB)).2.2
theorem o57_66 (hB : BytesOK) : okL 57 140 T57_66 = true := (okL_c (o57_65 hB)).2.2
theorem o57_67 (hB : BytesOK) : okL 57 141 T57_67 = true := (okL_c (o57_66 hB)).2.2
theorem o57_68 (hB : BytesOK) : okL 57 144 T57_68 = true := (okL_c (o57_67 hB)).2.2
theorem o57_69 (hB : BytesOK) : okL 57 147 T57_69 = true := (okL_c (o57_68 hB)).2.2
theorem o57_70 (hB : BytesOK) : okL 57 148 T57_70 = true := (okL_c (o57_69 hB)).2.2
theorem o57_71 (hB : BytesOK) : okL 57 149 T57_71 = true := (okL_c (o57_70 hB)).2.2
theorem o57_72 (hB : BytesOK) : okL 57 152 T57_72 = true := (okL_c (o57_71 hB)).2.2
theorem o57_73 (hB : BytesOK) : okL 57 155 T57_73 = true := (okL_c (o57_72 hB)).2.2
theorem o57_74 (hB : BytesOK) : okL 57 156 T57_74 = true := (okL_c (o57_73 hB)).2.2
theorem o57_75 (hB : BytesOK) : okL 57 157 T57_75 = true := (okL_c (o57_74 hB)).2.2
theorem o57_76 (hB : BytesOK) : okL 57 160 T57_76 = true := (okL_c (o57_75 hB)).2.2
theorem o57_77 (hB : BytesOK) : okL 57 163 T57_77 = true := (okL_c (o57_76 hB)).2.2
theorem o57_78 (hB : BytesOK) : okL 57 164 T57_78 = true := (okL_c (o57_77 hB)).2.2
theorem o57_79 (hB : BytesOK) : okL 57 167 T57_79 = true := (okL_c (o57_78 hB)).2.2
theorem o57_80 (hB : BytesOK) : okL 57 168 T57_80 = true := (okL_c (o57_79 hB)).2.2
theorem o57_81 (hB : BytesOK) : okL 57 171 T57_81 = true := (okL_c (o57_80 hB)).2.2
theorem o57_82 (hB : BytesOK) : okL 57 174 T57_82 = true := (okL_c (o57_81 hB)).2.2
theorem o57_83 (hB : BytesOK) : okL 57 175 T57_83 = true := (okL_c (o57_82 hB)).2.2
theorem o57_84 (hB : BytesOK) : okL 57 178 T57_84 = true := (okL_c (o57_83 hB)).2.2
theorem o57_85 (hB : BytesOK) : okL 57 179 T57_85 = true := (okL_c (o57_84 hB)).2.2
theorem o57_86 (hB : BytesOK) : okL 57 182 T57_86 = true := (okL_c (o57_85 hB)).2.2
theorem o57_87 (hB : BytesOK) : okL 57 185 T57_87 = true := (okL_c (o57_86 hB)).2.2
theorem ml57 : mml 57 = 2 := by decide +kernel
theorem mr57 : mret 57 = none := by decide +kernel
theorem mg57 : kGood 57 = true := by decide +kernel

def T79_28 : List Tok := []
def T79_27 : List Tok := (.return_, 1, 0, 0) :: T79_28
def T79_26 : List Tok := (.putfield 46, 3, 389, 289) :: T79_27
def T79_25 : List Tok := (.getfield 46, 3, 389, 289) :: T79_26
def T79_24 : List Tok := (.aload_n 1, 1, 0, 0) :: T79_25
def T79_23 : List Tok := (.aload_n 0, 1, 0, 0) :: T79_24
def T79_22 : List Tok := (.putfield 43, 3, 388, 287) :: T79_23
def T79_21 : List Tok := (.getfield 43, 3, 388, 287) :: T79_22
def T79_20 : List Tok := (.aload_n 1, 1, 0, 0) :: T79_21
def T79_19 : List Tok := (.aload_n 0, 1, 0, 0) :: T79_20
def T79_18 : List Tok := (.putfield 39, 3, 387, 285) :: T79_19
def T79_17 : List Tok := (.getfield 39, 3, 387, 285) :: T79_18
def T79_16 : List Tok := (.aload_n 1, 1, 0, 0) :: T79_17
def T79_15 : List Tok := (.aload_n 0, 1, 0, 0) :: T79_16
def T79_14 : List Tok := (.invokestatic 49, 3, 178, 300000) :: T79_15
def T79_13 : List Tok := (.getfield 18, 3, 386, 284) :: T79_14
def T79_12 : List Tok := (.aload_n 0, 1, 0, 0) :: T79_13
def T79_11 : List Tok := (.getfield 18, 3, 386, 284) :: T79_12
def T79_10 : List Tok := (.aload_n 1, 1, 0, 0) :: T79_11
def T79_9 : List Tok := (.invokestatic 49, 3, 178, 300000) :: T79_10
def T79_8 : List Tok := (.getfield 15, 3, 385, 282) :: T79_9
def T79_7 : List Tok := (.aload_n 0, 1, 0, 0) :: T79_8
def T79_6 : List Tok := (.getfield 15, 3, 385, 282) :: T79_7
def T79_5 : List Tok := (.aload_n 1, 1, 0, 0) :: T79_6
def T79_4 : List Tok := (.invokestatic 49, 3, 178, 300000) :: T79_5
def T79_3 : List Tok := (.getfield 9, 3, 384, 279) :: T79_4
def T79_2 : List Tok := (.aload_n 0, 1, 0, 0) :: T79_3
def T79_1 : List Tok := (.getfield 9, 3, 384, 279) :: T79_2
def T79_0 : List Tok := (.aload_n 1, 1, 0, 0) :: T79_1
theorem o79_0 (hB : BytesOK) : okL 79 0 T79_0 = true := by
  have h := hB.1 79
  rw [show tk 79 = T79_0 from by decide +kernel] at h
  exact h
theorem o79_1 (hB : BytesOK) : okL 79 1 T79_1 = true := (okL_c (o79_0 hB)).2.2
theorem o79_2 (hB : BytesOK) : okL 79 4 T79_2 = true := (okL_c (o79_1 hB)).2.2
theorem o79_3 (hB : BytesOK) : okL 79 5 T79_3 = true := (okL_c (o79_2 hB)).2.2
theorem o79_4 (hB : BytesOK) : okL 79 8 T79_4 = true := (okL_c (o79_3 hB)).2.2
theorem o79_5 (hB : BytesOK) : okL 79 11 T79_5 = true := (okL_c (o79_4 hB)).2.2
theorem o79_6 (hB : BytesOK) : okL 79 12 T79_6 = true := (okL_c (o79_5 hB)).2.2
theorem o79_7 (hB : BytesOK) : okL 79 15 T79_7 = true := (okL_c (o79_6 hB)).2.2
theorem o79_8 (hB : BytesOK) : okL 79 16 T79_8 = true := (okL_c (o79_7 hB)).2.2
theorem o79_9 (hB : BytesOK) : okL 79 19 T79_9 = true := (okL_c (o79_8 hB)).2.2
theorem o79_10 (hB : BytesOK) : okL 79 22 T79_10 = true := (okL_c (o79_9 hB)).2.2
theorem o79_11 (hB : BytesOK) : okL 79 23 T79_11 = true := (okL_c (o79_10 hB)).2.2
theorem o79_12 (hB : BytesOK) : okL 79 26 T79_12 = true := (okL_c (o79_11 hB)).2.2
theorem o79_13 (hB : BytesOK) : okL 79 27 T79_13 = true := (okL_c (o79_12 hB)).2.2
theorem o79_14 (hB : BytesOK) : okL 79 30 T79_14 = true := (okL_c (o79_13 hB)).2.2
theorem o79_15 (hB : BytesOK) : okL 79 33 T79_15 = true := (okL_c (o79_14 hB)).2.2
theorem o79_16 (hB : BytesOK) : okL 79 34 T79_16 = true := (okL_c (o79_15 hB)).2.2
theorem o79_17 (hB : BytesOK) : okL 79 35 T79_17 = true := (okL_c (o79_16 hB)).2.2
theorem o79_18 (hB : BytesOK) : okL 79 38 T79_18 = true := (okL_c (o79_17 hB)).2.2
theorem o79_19 (hB : BytesOK) : okL 79 41 T79_19 = true := (okL_c (o79_18 hB)).2.2
theorem o79_20 (hB : BytesOK) : okL 79 42 T79_20 = true := (okL_c (o79_19 hB)).2.2
theorem o79_21 (hB : BytesOK) : okL 79 43 T79_21 = true := (okL_c (o79_20 hB)).2.2
theorem o79_22 (hB : BytesOK) : okL 79 46 T79_22 = true := (okL_c (o79_21 hB)).2.2
theorem o79_23 (hB : BytesOK) : okL 79 49 T79_23 = true := (okL_c (o79_22 hB)).2.2
theorem o79_24 (hB : BytesOK) : okL 79 50 T79_24 = true := (okL_c (o79_23 hB)).2.2
theorem o79_25 (hB : BytesOK) : okL 79 51 T79_25 = true := (okL_c (o79_24 hB)).2.2
theorem o79_26 (hB : BytesOK) : okL 79 54 T79_26 = true := (okL_c (o79_25 hB)).2.2
theorem o79_27 (hB : BytesOK) : okL 79 57 T79_27 = true := (okL_c (o79_26 hB)).2.2
theorem ml79 : mml 79 = 2 := by decide +kernel
theorem mr79 : mret 79 = none := by decide +kernel
theorem mg79 : kGood 79 = true := by decide +kernel

def T107_40 : List Tok := []
def T107_39 : List Tok := (.ireturn, 1, 0, 0) :: T107_40
def T107_38 : List Tok := (.putfield 48, 3, 576, 215) :: T107_39
def T107_37 : List Tok := (.iadd, 1, 0, 0) :: T107_38
def T107_36 : List Tok := (.iconst 1, 1, 0, 0) :: T107_37
def T107_35 : List Tok := (.dup_x1, 1, 0, 0) :: T107_36
def T107_34 : List Tok := (.getfield 48, 3, 576, 215) :: T107_35
def T107_33 : List Tok := (.dup, 1, 0, 0) :: T107_34
def T107_32 : List Tok := (.aload_n 0, 1, 0, 0) :: T107_33
def T107_31 : List Tok := (.iastore, 1, 0, 0) :: T107_32
def T107_30 : List Tok := (.iload_n 3, 1, 0, 0) :: T107_31
def T107_29 : List Tok := (.getfield 48, 3, 576, 215) :: T107_30
def T107_28 : List Tok := (.aload_n 0, 1, 0, 0) :: T107_29
def T107_27 : List Tok := (.getfield 18, 3, 579, 220) :: T107_28
def T107_26 : List Tok := (.aload_n 0, 1, 0, 0) :: T107_27
def T107_25 : List Tok := (.iastore, 1, 0, 0) :: T107_26
def T107_24 : List Tok := (.iload_n 2, 1, 0, 0) :: T107_25
def T107_23 : List Tok := (.getfield 48, 3, 576, 215) :: T107_24
def T107_22 : List Tok := (.aload_n 0, 1, 0, 0) :: T107_23
def T107_21 : List Tok := (.getfield 15, 3, 578, 218) :: T107_22
def T107_20 : List Tok := (.aload_n 0, 1, 0, 0) :: T107_21
def T107_19 : List Tok := (.iastore, 1, 0, 0) :: T107_20
def T107_18 : List Tok := (.iload_n 1, 1, 0, 0) :: T107_19
def T107_17 : List Tok := (.getfield 48, 3, 576, 215) :: T107_18
def T107_16 : List Tok := (.aload_n 0, 1, 0, 0) :: T107_17
def T107_15 : List Tok := (.getfield 9, 3, 577, 217) :: T107_16
def T107_14 : List Tok := (.aload_n 0, 1, 0, 0) :: T107_15
def T107_13 : List Tok := (.ireturn, 1, 0, 0) :: T107_14
def T107_12 : List Tok := (.bipush (-2), 2, 0, 0) :: T107_13
def T107_11 : List Tok := (.if_icmp .lt 6, 3, 0, 0) :: T107_12
def T107_10 : List Tok := (.bipush 24, 2, 0, 0) :: T107_11
def T107_9 : List Tok := (.getfield 48, 3, 576, 215) :: T107_10
def T107_8 : List Tok := (.aload_n 0, 1, 0, 0) :: T107_9
def T107_7 : List Tok := (.ireturn, 1, 0, 0) :: T107_8
def T107_6 : List Tok := (.iconst (-1), 1, 0, 0) :: T107_7
def T107_5 : List Tok := (.if_icmp .le 5, 3, 0, 0) :: T107_6
def T107_4 : List Tok := (.sipush 999, 3, 0, 0) :: T107_5
def T107_3 : List Tok := (.iload_n 2, 1, 0, 0) :: T107_4
def T107_2 : List Tok := (.if_icmp .lt 10, 3, 0, 0) :: T107_3
def T107_1 : List Tok := (.iconst 1, 1, 0, 0) :: T107_2
def T107_0 : List Tok := (.iload_n 2, 1, 0, 0) :: T107_1
theorem o107_0 (hB : BytesOK) : okL 107 0 T107_0 = true := by
  have h := hB.1 107
  rw [show tk 107 = T107_0 from by decide +kernel] at h
  exact h
theorem o107_1 (hB : BytesOK) : okL 107 1 T107_1 = true := (okL_c (o107_0 hB)).2.2
theorem o107_2 (hB : BytesOK) : okL 107 2 T107_2 = true := (okL_c (o107_1 hB)).2.2
theorem o107_3 (hB : BytesOK) : okL 107 5 T107_3 = true := (okL_c (o107_2 hB)).2.2
theorem o107_4 (hB : BytesOK) : okL 107 6 T107_4 = true := (okL_c (o107_3 hB)).2.2
theorem o107_5 (hB : BytesOK) : okL 107 9 T107_5 = true := (okL_c (o107_4 hB)).2.2
theorem o107_6 (hB : BytesOK) : okL 107 12 T107_6 = true := (okL_c (o107_5 hB)).2.2
theorem o107_7 (hB : BytesOK) : okL 107 13 T107_7 = true := (okL_c (o107_6 hB)).2.2
theorem o107_8 (hB : BytesOK) : okL 107 14 T107_8 = true := (okL_c (o107_7 hB)).2.2
theorem o107_9 (hB : BytesOK) : okL 107 15 T107_9 = true := (okL_c (o107_8 hB)).2.2
theorem o107_10 (hB : BytesOK) : okL 107 18 T107_10 = true := (okL_c (o107_9 hB)).2.2
theorem o107_11 (hB : BytesOK) : okL 107 20 T107_11 = true := (okL_c (o107_10 hB)).2.2
theorem o107_12 (hB : BytesOK) : okL 107 23 T107_12 = true := (okL_c (o107_11 hB)).2.2
theorem o107_13 (hB : BytesOK) : okL 107 25 T107_13 = true := (okL_c (o107_12 hB)).2.2
theorem o107_14 (hB : BytesOK) : okL 107 26 T107_14 = true := (okL_c (o107_13 hB)).2.2
theorem o107_15 (hB : BytesOK) : okL 107 27 T107_15 = true := (okL_c (o107_14 hB)).2.2
theorem o107_16 (hB : BytesOK) : okL 107 30 T107_16 = true := (okL_c (o107_15 hB)).2.2
theorem o107_17 (hB : BytesOK) : okL 107 31 T107_17 = true := (okL_c (o107_16 hB)).2.2
theorem o107_18 (hB : BytesOK) : okL 107 34 T107_18 = true := (okL_c (o107_17 hB)).2.2
theorem o107_19 (hB : BytesOK) : okL 107 35 T107_19 = true := (okL_c (o107_18 hB)).2.2
theorem o107_20 (hB : BytesOK) : okL 107 36 T107_20 = true := (okL_c (o107_19 hB)).2.2
theorem o107_21 (hB : BytesOK) : okL 107 37 T107_21 = true := (okL_c (o107_20 hB)).2.2
theorem o107_22 (hB : BytesOK) : okL 107 40 T107_22 = true := (okL_c (o107_21 hB)).2.2
theorem o107_23 (hB : BytesOK) : okL 107 41 T107_23 = true := (okL_c (o107_22 hB)).2.2
theorem o107_24 (hB : BytesOK) : okL 107 44 T107_24 = true := (okL_c (o107_23 hB)).2.2
theorem o107_25 (hB : BytesOK) : okL 107 45 T107_25 = true := (okL_c (o107_24 hB)).2.2
theorem o107_26 (hB : BytesOK) : okL 107 46 T107_26 = true := (okL_c (o107_25 hB)).2.2
theorem o107_27 (hB : BytesOK) : okL 107 47 T107_27 = true := (okL_c (o107_26 hB)).2.2
theorem o107_28 (hB : BytesOK) : okL 107 50 T107_28 = true := (okL_c (o107_27 hB)).2.2
theorem o107_29 (hB : BytesOK) : okL 107 51 T107_29 = true := (okL_c (o107_28 hB)).2.2
theorem o107_30 (hB : BytesOK) : okL 107 54 T107_30 = true := (okL_c (o107_29 hB)).2.2
theorem o107_31 (hB : BytesOK) : okL 107 55 T107_31 = true := (okL_c (o107_30 hB)).2.2
theorem o107_32 (hB : BytesOK) : okL 107 56 T107_32 = true := (okL_c (o107_31 hB)).2.2
theorem o107_33 (hB : BytesOK) : okL 107 57 T107_33 = true := (okL_c (o107_32 hB)).2.2
theorem o107_34 (hB : BytesOK) : okL 107 58 T107_34 = true := (okL_c (o107_33 hB)).2.2
theorem o107_35 (hB : BytesOK) : okL 107 61 T107_35 = true := (okL_c (o107_34 hB)).2.2
theorem o107_36 (hB : BytesOK) : okL 107 62 T107_36 = true := (okL_c (o107_35 hB)).2.2
theorem o107_37 (hB : BytesOK) : okL 107 63 T107_37 = true := (okL_c (o107_36 hB)).2.2
theorem o107_38 (hB : BytesOK) : okL 107 64 T107_38 = true := (okL_c (o107_37 hB)).2.2
theorem o107_39 (hB : BytesOK) : okL 107 67 T107_39 = true := (okL_c (o107_38 hB)).2.2
theorem ml107 : mml 107 = 4 := by decide +kernel
theorem mr107 : mret 107 = some .int := by decide +kernel
theorem mg107 : kGood 107 = true := by decide +kernel

def T108_31 : List Tok := []
def T108_30 : List Tok := (.ireturn, 1, 0, 0) :: T108_31
def T108_29 : List Tok := (.iload_n 3, 1, 0, 0) :: T108_30
def T108_28 : List Tok := (.goto (-44), 3, 0, 0) :: T108_29
def T108_27 : List Tok := (.iinc 4 1, 3, 0, 0) :: T108_28
def T108_26 : List Tok := (.istore_n 3, 1, 0, 0) :: T108_27
def T108_25 : List Tok := (.iadd, 1, 0, 0) :: T108_26
def T108_24 : List Tok := (.iaload, 1, 0, 0) :: T108_25
def T108_23 : List Tok := (.iload 4, 2, 0, 0) :: T108_24
def T108_22 : List Tok := (.getfield 15, 3, 578, 218) :: T108_23
def T108_21 : List Tok := (.aload_n 0, 1, 0, 0) :: T108_22
def T108_20 : List Tok := (.iload_n 3, 1, 0, 0) :: T108_21
def T108_19 : List Tok := (.if_icmp .gt 13, 3, 0, 0) :: T108_20
def T108_18 : List Tok := (.iload_n 2, 1, 0, 0) :: T108_19
def T108_17 : List Tok := (.iaload, 1, 0, 0) :: T108_18
def T108_16 : List Tok := (.iload 4, 2, 0, 0) :: T108_17
def T108_15 : List Tok := (.getfield 18, 3, 579, 220) :: T108_16
def T108_14 : List Tok := (.aload_n 0, 1, 0, 0) :: T108_15
def T108_13 : List Tok := (.if_icmp .ne 24, 3, 0, 0) :: T108_14
def T108_12 : List Tok := (.iload_n 1, 1, 0, 0) :: T108_13
def T108_11 : List Tok := (.iaload, 1, 0, 0) :: T108_12
def T108_10 : List Tok := (.iload 4, 2, 0, 0) :: T108_11
def T108_9 : List Tok := (.getfield 9, 3, 577, 217) :: T108_10
def T108_8 : List Tok := (.aload_n 0, 1, 0, 0) :: T108_9
def T108_7 : List Tok := (.if_icmp .ge 41, 3, 0, 0) :: T108_8
def T108_6 : List Tok := (.getfield 48, 3, 576, 215) :: T108_7
def T108_5 : List Tok := (.aload_n 0, 1, 0, 0) :: T108_6
def T108_4 : List Tok := (.iload 4, 2, 0, 0) :: T108_5
def T108_3 : List Tok := (.istore 4, 2, 0, 0) :: T108_4
def T108_2 : List Tok := (.iconst 0, 1, 0, 0) :: T108_3
def T108_1 : List Tok := (.istore_n 3, 1, 0, 0) :: T108_2
def T108_0 : List Tok := (.iconst 0, 1, 0, 0) :: T108_1
theorem o108_0 (hB : BytesOK) : okL 108 0 T108_0 = true := by
  have h := hB.1 108
  rw [show tk 108 = T108_0 from by decide +kernel] at h
  exact h
theorem o108_1 (hB : BytesOK) : okL 108 1 T108_1 = true := (okL_c (o108_0 hB)).2.2
theorem o108_2 (hB : BytesOK) : okL 108 2 T108_2 = true := (okL_c (o108_1 hB)).2.2
theorem o108_3 (hB : BytesOK) : okL 108 3 T108_3 = true := (okL_c (o108_2 hB)).2.2
theorem o108_4 (hB : BytesOK) : okL 108 5 T108_4 = true := (okL_c (o108_3 hB)).2.2
theorem o108_5 (hB : BytesOK) : okL 108 7 T108_5 = true := (okL_c (o108_4 hB)).2.2
theorem o108_6 (hB : BytesOK) : okL 108 8 T108_6 = true := (okL_c (o108_5 hB)).2.2
theorem o108_7 (hB : BytesOK) : okL 108 11 T108_7 = true := (okL_c (o108_6 hB)).2.2
theorem o108_8 (hB : BytesOK) : okL 108 14 T108_8 = true := (okL_c (o108_7 hB)).2.2
theorem o108_9 (hB : BytesOK) : okL 108 15 T108_9 = true := (okL_c (o108_8 hB)).2.2
theorem o108_10 (hB : BytesOK) : okL 108 18 T108_10 = true := (okL_c (o108_9 hB)).2.2
theorem o108_11 (hB : BytesOK) : okL 108 20 T108_11 = true := (okL_c (o108_10 hB)).2.2
theorem o108_12 (hB : BytesOK) : okL 108 21 T108_12 = true := (okL_c (o108_11 hB)).2.2
theorem o108_13 (hB : BytesOK) : okL 108 22 T108_13 = true := (okL_c (o108_12 hB)).2.2
theorem o108_14 (hB : BytesOK) : okL 108 25 T108_14 = true := (okL_c (o108_13 hB)).2.2
theorem o108_15 (hB : BytesOK) : okL 108 26 T108_15 = true := (okL_c (o108_14 hB)).2.2
theorem o108_16 (hB : BytesOK) : okL 108 29 T108_16 = true := (okL_c (o108_15 hB)).2.2
theorem o108_17 (hB : BytesOK) : okL 108 31 T108_17 = true := (okL_c (o108_16 hB)).2.2
theorem o108_18 (hB : BytesOK) : okL 108 32 T108_18 = true := (okL_c (o108_17 hB)).2.2
theorem o108_19 (hB : BytesOK) : okL 108 33 T108_19 = true := (okL_c (o108_18 hB)).2.2
theorem o108_20 (hB : BytesOK) : okL 108 36 T108_20 = true := (okL_c (o108_19 hB)).2.2
theorem o108_21 (hB : BytesOK) : okL 108 37 T108_21 = true := (okL_c (o108_20 hB)).2.2
theorem o108_22 (hB : BytesOK) : okL 108 38 T108_22 = true := (okL_c (o108_21 hB)).2.2
theorem o108_23 (hB : BytesOK) : okL 108 41 T108_23 = true := (okL_c (o108_22 hB)).2.2
theorem o108_24 (hB : BytesOK) : okL 108 43 T108_24 = true := (okL_c (o108_23 hB)).2.2
theorem o108_25 (hB : BytesOK) : okL 108 44 T108_25 = true := (okL_c (o108_24 hB)).2.2
theorem o108_26 (hB : BytesOK) : okL 108 45 T108_26 = true := (okL_c (o108_25 hB)).2.2
theorem o108_27 (hB : BytesOK) : okL 108 46 T108_27 = true := (okL_c (o108_26 hB)).2.2
theorem o108_28 (hB : BytesOK) : okL 108 49 T108_28 = true := (okL_c (o108_27 hB)).2.2
theorem o108_29 (hB : BytesOK) : okL 108 52 T108_29 = true := (okL_c (o108_28 hB)).2.2
theorem o108_30 (hB : BytesOK) : okL 108 53 T108_30 = true := (okL_c (o108_29 hB)).2.2
theorem ml108 : mml 108 = 5 := by decide +kernel
theorem mr108 : mret 108 = some .int := by decide +kernel
theorem mg108 : kGood 108 = true := by decide +kernel

def T117_39 : List Tok := []
def T117_38 : List Tok := (.ireturn, 1, 0, 0) :: T117_39
def T117_37 : List Tok := (.putfield 98, 3, 590, 234) :: T117_38
def T117_36 : List Tok := (.iadd, 1, 0, 0) :: T117_37
def T117_35 : List Tok := (.iconst 1, 1, 0, 0) :: T117_36
def T117_34 : List Tok := (.dup_x1, 1, 0, 0) :: T117_35
def T117_33 : List Tok := (.getfield 98, 3, 590, 234) :: T117_34
def T117_32 : List Tok := (.dup, 1, 0, 0) :: T117_33
def T117_31 : List Tok := (.aload_n 0, 1, 0, 0) :: T117_32
def T117_30 : List Tok := (.iastore, 1, 0, 0) :: T117_31
def T117_29 : List Tok := (.iload_n 2, 1, 0, 0) :: T117_30
def T117_28 : List Tok := (.getfield 98, 3, 590, 234) :: T117_29
def T117_27 : List Tok := (.aload_n 0, 1, 0, 0) :: T117_28
def T117_26 : List Tok := (.getfield 45, 3, 592, 237) :: T117_27
def T117_25 : List Tok := (.aload_n 0, 1, 0, 0) :: T117_26
def T117_24 : List Tok := (.iastore, 1, 0, 0) :: T117_25
def T117_23 : List Tok := (.iload_n 1, 1, 0, 0) :: T117_24
def T117_22 : List Tok := (.getfield 98, 3, 590, 234) :: T117_23
def T117_21 : List Tok := (.aload_n 0, 1, 0, 0) :: T117_22
def T117_20 : List Tok := (.getfield 42, 3, 591, 236) :: T117_21
def T117_19 : List Tok := (.aload_n 0, 1, 0, 0) :: T117_20
def T117_18 : List Tok := (.ireturn, 1, 0, 0) :: T117_19
def T117_17 : List Tok := (.bipush (-2), 2, 0, 0) :: T117_18
def T117_16 : List Tok := (.if_icmp .lt 6, 3, 0, 0) :: T117_17
def T117_15 : List Tok := (.bipush 12, 2, 0, 0) :: T117_16
def T117_14 : List Tok := (.getfield 98, 3, 590, 234) :: T117_15
def T117_13 : List Tok := (.aload_n 0, 1, 0, 0) :: T117_14
def T117_12 : List Tok := (.ireturn, 1, 0, 0) :: T117_13
def T117_11 : List Tok := (.iconst (-1), 1, 0, 0) :: T117_12
def T117_10 : List Tok := (.if_icmp .ge 5, 3, 0, 0) :: T117_11
def T117_9 : List Tok := (.iload_n 2, 1, 0, 0) :: T117_10
def T117_8 : List Tok := (.iload_n 3, 1, 0, 0) :: T117_9
def T117_7 : List Tok := (.if_icmp .gt 8, 3, 0, 0) :: T117_8
def T117_6 : List Tok := (.sipush 9999, 3, 0, 0) :: T117_7
def T117_5 : List Tok := (.iload_n 3, 1, 0, 0) :: T117_6
def T117_4 : List Tok := (.ifCond .lt 15, 3, 0, 0) :: T117_5
def T117_3 : List Tok := (.iload_n 2, 1, 0, 0) :: T117_4
def T117_2 : List Tok := (.ifCond .eq 19, 3, 0, 0) :: T117_3
def T117_1 : List Tok := (.invokestatic 95, 3, 177, 300000) :: T117_2
def T117_0 : List Tok := (.iload_n 1, 1, 0, 0) :: T117_1
theorem o117_0 (hB : BytesOK) : okL 117 0 T117_0 = true := by
  have h := hB.1 117
  rw [show tk 117 = T117_0 from by decide +kernel] at h
  exact h
theorem o117_1 (hB : BytesOK) : okL 117 1 T117_1 = true := (okL_c (o117_0 hB)).2.2
theorem o117_2 (hB : BytesOK) : okL 117 4 T117_2 = true := (okL_c (o117_1 hB)).2.2
theorem o117_3 (hB : BytesOK) : okL 117 7 T117_3 = true := (okL_c (o117_2 hB)).2.2
theorem o117_4 (hB : BytesOK) : okL 117 8 T117_4 = true := (okL_c (o117_3 hB)).2.2
theorem o117_5 (hB : BytesOK) : okL 117 11 T117_5 = true := (okL_c (o117_4 hB)).2.2
theorem o117_6 (hB : BytesOK) : okL 117 12 T117_6 = true := (okL_c (o117_5 hB)).2.2
theorem o117_7 (hB : BytesOK) : okL 117 15 T117_7 = true := (okL_c (o117_6 hB)).2.2
theorem o117_8 (hB : BytesOK) : okL 117 18 T117_8 = true := (okL_c (o117_7 hB)).2.2
theorem o117_9 (hB : BytesOK) : okL 117 19 T117_9 = true := (okL_c (o117_8 hB)).2.2
theorem o117_10 (hB : BytesOK) : okL 117 20 T117_10 = true := (okL_c (o117_9 hB)).2.2
theorem o117_11 (hB : BytesOK) : okL 117 23 T117_11 = true := (okL_c (o117_10 hB)).2.2
theorem o117_12 (hB : BytesOK) : okL 117 24 T117_12 = true := (okL_c (o117_11 hB)).2.2
theorem o117_13 (hB : BytesOK) : okL 117 25 T117_13 = true := (okL_c (o117_12 hB)).2.2
theorem o117_14 (hB : BytesOK) : okL 117 26 T117_14 = true := (okL_c (o117_13 hB)).2.2
theorem o117_15 (hB : BytesOK) : okL 117 29 T117_15 = true := (okL_c (o117_14 hB)).2.2
theorem o117_16 (hB : BytesOK) : okL 117 31 T117_16 = true := (okL_c (o117_15 hB)).2.2
theorem o117_17 (hB : BytesOK) : okL 117 34 T117_17 = true := (okL_c (o117_16 hB)).2.2
theorem o117_18 (hB : BytesOK) : okL 117 36 T117_18 = true := (okL_c (o117_17 hB)).2.2
theorem o117_19 (hB : BytesOK) : okL 117 37 T117_19 = true := (okL_c (o117_18 hB)).2.2
theorem o117_20 (hB : BytesOK) : okL 117 38 T117_20 = true := (okL_c (o117_19 hB)).2.2
theorem o117_21 (hB : BytesOK) : okL 117 41 T117_21 = true := (okL_c (o117_20 hB)).2.2
theorem o117_22 (hB : BytesOK) : okL 117 42 T117_22 = true := (okL_c (o117_21 hB)).2.2
theorem o117_23 (hB : BytesOK) : okL 117 45 T117_23 = true := (okL_c (o117_22 hB)).2.2
theorem o117_24 (hB : BytesOK) : okL 117 46 T117_24 = true := (okL_c (o117_23 hB)).2.2
theorem o117_25 (hB : BytesOK) : okL 117 47 T117_25 = true := (okL_c (o117_24 hB)).2.2
theorem o117_26 (hB : BytesOK) : okL 117 48 T117_26 = true := (okL_c (o117_25 hB)).2.2
theorem o117_27 (hB : BytesOK) : okL 117 51 T117_27 = true := (okL_c (o117_26 hB)).2.2
theorem o117_28 (hB : BytesOK) : okL 117 52 T117_28 = true := (okL_c (o117_27 hB)).2.2
theorem o117_29 (hB : BytesOK) : okL 117 55 T117_29 = true := (okL_c (o117_28 hB)).2.2
theorem o117_30 (hB : BytesOK) : okL 117 56 T117_30 = true := (okL_c (o117_29 hB)).2.2
theorem o117_31 (hB : BytesOK) : okL 117 57 T117_31 = true := (okL_c (o117_30 hB)).2.2
theorem o117_32 (hB : BytesOK) : okL 117 58 T117_32 = true := (okL_c (o117_31 hB)).2.2
theorem o117_33 (hB : BytesOK) : okL 117 59 T117_33 = true := (okL_c (o117_32 hB)).2.2
theorem o117_34 (hB : BytesOK) : okL 117 62 T117_34 = true := (okL_c (o117_33 hB)).2.2
theorem o117_35 (hB : BytesOK) : okL 117 63 T117_35 = true := (okL_c (o117_34 hB)).2.2
theorem o117_36 (hB : BytesOK) : okL 117 64 T117_36 = true := (okL_c (o117_35 hB)).2.2
theorem o117_37 (hB : BytesOK) : okL 117 65 T117_37 = true := (okL_c (o117_36 hB)).2.2
theorem o117_38 (hB : BytesOK) : okL 117 68 T117_38 = true := (okL_c (o117_37 hB)).2.2
theorem ml117 : mml 117 = 4 := by decide +kernel
theorem mr117 : mret 117 = some .int := by decide +kernel
theorem mg117 : kGood 117 = true := by decide +kernel

def T118_43 : List Tok := []
def T118_42 : List Tok := (.ireturn, 1, 0, 0) :: T118_43
def T118_41 : List Tok := (.iload_n 3, 1, 0, 0) :: T118_42
def T118_40 : List Tok := (.goto (-67), 3, 0, 0) :: T118_41
def T118_39 : List Tok := (.iinc 4 1, 3, 0, 0) :: T118_40
def T118_38 : List Tok := (.istore_n 3, 1, 0, 0) :: T118_39
def T118_37 : List Tok := (.iadd, 1, 0, 0) :: T118_38
def T118_36 : List Tok := (.invokestatic 110, 3, 298, 995) :: T118_37
def T118_35 : List Tok := (.isub, 1, 0, 0) :: T118_36
def T118_34 : List Tok := (.invokevirtual 107, 3, 108, 998) :: T118_35
def T118_33 : List Tok := (.iload_n 2, 1, 0, 0) :: T118_34
def T118_32 : List Tok := (.iaload, 1, 0, 0) :: T118_33
def T118_31 : List Tok := (.iload 4, 2, 0, 0) :: T118_32
def T118_30 : List Tok := (.getfield 42, 3, 591, 236) :: T118_31
def T118_29 : List Tok := (.aload_n 0, 1, 0, 0) :: T118_30
def T118_28 : List Tok := (.aload_n 0, 1, 0, 0) :: T118_29
def T118_27 : List Tok := (.invokevirtual 104, 3, 120, 991) :: T118_28
def T118_26 : List Tok := (.iaload, 1, 0, 0) :: T118_27
def T118_25 : List Tok := (.iload 4, 2, 0, 0) :: T118_26
def T118_24 : List Tok := (.getfield 42, 3, 591, 236) :: T118_25
def T118_23 : List Tok := (.aload_n 0, 1, 0, 0) :: T118_24
def T118_22 : List Tok := (.aload_n 0, 1, 0, 0) :: T118_23
def T118_21 : List Tok := (.iconst 0, 1, 0, 0) :: T118_22
def T118_20 : List Tok := (.iload_n 3, 1, 0, 0) :: T118_21
def T118_19 : List Tok := (.ifCond .eq 34, 3, 0, 0) :: T118_20
def T118_18 : List Tok := (.invokevirtual 101, 3, 119, 987) :: T118_19
def T118_17 : List Tok := (.iload 4, 2, 0, 0) :: T118_18
def T118_16 : List Tok := (.aload_n 0, 1, 0, 0) :: T118_17
def T118_15 : List Tok := (.if_icmp .ne 43, 3, 0, 0) :: T118_16
def T118_14 : List Tok := (.iload_n 1, 1, 0, 0) :: T118_15
def T118_13 : List Tok := (.idiv, 1, 0, 0) :: T118_14
def T118_12 : List Tok := (.sipush 10000, 3, 0, 0) :: T118_13
def T118_11 : List Tok := (.iaload, 1, 0, 0) :: T118_12
def T118_10 : List Tok := (.iload 4, 2, 0, 0) :: T118_11
def T118_9 : List Tok := (.getfield 42, 3, 591, 236) :: T118_10
def T118_8 : List Tok := (.aload_n 0, 1, 0, 0) :: T118_9
def T118_7 : List Tok := (.if_icmp .ge 64, 3, 0, 0) :: T118_8
def T118_6 : List Tok := (.getfield 98, 3, 590, 234) :: T118_7
def T118_5 : List Tok := (.aload_n 0, 1, 0, 0) :: T118_6
def T118_4 : List Tok := (.iload 4, 2, 0, 0) :: T118_5
def T118_3 : List Tok := (.istore 4, 2, 0, 0) :: T118_4
def T118_2 : List Tok := (.iconst 0, 1, 0, 0) :: T118_3
def T118_1 : List Tok := (.istore_n 3, 1, 0, 0) :: T118_2
def T118_0 : List Tok := (.iconst 0, 1, 0, 0) :: T118_1
theorem o118_0 (hB : BytesOK) : okL 118 0 T118_0 = true := by
  have h := hB.1 118
  rw [show tk 118 = T118_0 from by decide +kernel] at h
  exact h
theorem o118_1 (hB : BytesOK) : okL 118 1 T118_1 = true := (okL_c (o118_0 hB)).2.2
theorem o118_2 (hB : BytesOK) : okL 118 2 T118_2 = true := (okL_c (o118_1 hB)).2.2
theorem o118_3 (hB : BytesOK) : okL 118 3 T118_3 = true := (okL_c (o118_2 hB)).2.2
theorem o118_4 (hB : BytesOK) : okL 118 5 T118_4 = true := (okL_c (o118_3 hB)).2.2
theorem o118_5 (hB : BytesOK) : okL 118 7 T118_5 = true := (okL_c (o118_4 hB)).2.2
theorem o118_6 (hB : BytesOK) : okL 118 8 T118_6 = true := (okL_c (o118_5 hB)).2.2
theorem o118_7 (hB : BytesOK) : okL 118 11 T118_7 = true := (okL_c (o118_6 hB)).2.2
theorem o118_8 (hB : BytesOK) : okL 118 14 T118_8 = true := (okL_c (o118_7 hB)).2.2
theorem o118_9 (hB : BytesOK) : okL 118 15 T118_9 = true := (okL_c (o118_8 hB)).2.2
theorem o118_10 (hB : BytesOK) : okL 118 18 T118_10 = true := (okL_c (o118_9 hB)).2.2
theorem o118_11 (hB : BytesOK) : okL 118 20 T118_11 = true := (okL_c (o118_10 hB)).2.2
theorem o118_12 (hB : BytesOK) : okL 118 21 T118_12 = true := (okL_c (o118_11 hB)).2.2
theorem o118_13 (hB : BytesOK) : okL 118 24 T118_13 = true := (okL_c (o118_12 hB)).2.2
theorem o118_14 (hB : BytesOK) : okL 118 25 T118_14 = true := (okL_c (o118_13 hB)).2.2
theorem o118_15 (hB : BytesOK) : okL 118 26 T118_15 = true := (okL_c (o118_14 hB)).2.2
theorem o118_16 (hB : BytesOK) : okL 118 29 T118_16 = true := (okL_c (o118_15 hB)).2.2
theorem o118_17 (hB : BytesOK) : okL 118 30 T118_17 = true := (okL_c (o118_16 hB)).2.2
theorem o118_18 (hB : BytesOK) : okL 118 32 T118_18 = true := (okL_c (o118_17 hB)).2.2
theorem o118_19 (hB : BytesOK) : okL 118 35 T118_19 = true := (okL_c (o118_18 hB)).2.2
theorem o118_20 (hB : BytesOK) : okL 118 38 T118_20 = true := (okL_c (o118_19 hB)).2.2
theorem o118_21 (hB : BytesOK) : okL 118 39 T118_21 = true := (okL_c (o118_20 hB)).2.2
theorem o118_22 (hB : BytesOK) : okL 118 40 T118_22 = true := (okL_c (o118_21 hB)).2.2
theorem o118_23 (hB : BytesOK) : okL 118 41 T118_23 = true := (okL_c (o118_22 hB)).2.2
theorem o118_24 (hB : BytesOK) : okL 118 42 T118_24 = true := (okL_c (o118_23 hB)).2.2
theorem o118_25 (hB : BytesOK) : okL 118 45 T118_25 = true := (okL_c (o118_24 hB)).2.2
theorem o118_26 (hB : BytesOK) : okL 118 47 T118_26 = true := (okL_c (o118_25 hB)).2.2
theorem o118_27 (hB : BytesOK) : okL 118 48 T118_27 = true := (okL_c (o118_26 hB)).2.2
theorem o118_28 (hB : BytesOK) : okL 118 51 T118_28 = true := (okL_c (o118_27 hB)).2.2
theorem o118_29 (hB : BytesOK) : okL 118 52 T118_29 = true := (okL_c (o118_28 hB)).2.2
theorem o118_30 (hB : BytesOK) : okL 118 53 T118_30 = true := (okL_c (o118_29 hB)).2.2
theorem o118_31 (hB : BytesOK) : okL 118 56 T118_31 = true := (okL_c (o118_30 hB)).2.2
theorem o118_32 (hB : BytesOK) : okL 118 58 T118_32 = true := (okL_c (o118_31 hB)).2.2
theorem o118_33 (hB : BytesOK) : okL 118 59 T118_33 = true := (okL_c (o118_32 hB)).2.2
theorem o118_34 (hB : BytesOK) : okL 118 60 T118_34 = true := (okL_c (o118_33 hB)).2.2
theorem o118_35 (hB : BytesOK) : okL 118 63 T118_35 = true := (okL_c (o118_34 hB)).2.2
theorem o118_36 (hB : BytesOK) : okL 118 64 T118_36 = true := (okL_c (o118_35 hB)).2.2
theorem o118_37 (hB : BytesOK) : okL 118 67 T118_37 = true := (okL_c (o118_36 hB)).2.2
theorem o118_38 (hB : BytesOK) : okL 118 68 T118_38 = true := (okL_c (o118_37 hB)).2.2
theorem o118_39 (hB : BytesOK) : okL 118 69 T118_39 = true := (okL_c (o118_38 hB)).2.2
theorem o118_40 (hB : BytesOK) : okL 118 72 T118_40 = true := (okL_c (o118_39 hB)).2.2
theorem o118_41 (hB : BytesOK) : okL 118 75 T118_41 = true := (okL_c (o118_40 hB)).2.2
theorem o118_42 (hB : BytesOK) : okL 118 76 T118_42 = true := (okL_c (o118_41 hB)).2.2
theorem ml118 : mml 118 = 5 := by decide +kernel
theorem mr118 : mret 118 = some .int := by decide +kernel
theorem mg118 : kGood 118 = true := by decide +kernel

def T119_20 : List Tok := []
def T119_19 : List Tok := (.ireturn, 1, 0, 0) :: T119_20
def T119_18 : List Tok := (.iconst 1, 1, 0, 0) :: T119_19
def T119_17 : List Tok := (.goto (-25), 3, 0, 0) :: T119_18
def T119_16 : List Tok := (.iinc 2 1, 3, 0, 0) :: T119_17
def T119_15 : List Tok := (.ireturn, 1, 0, 0) :: T119_16
def T119_14 : List Tok := (.iconst 0, 1, 0, 0) :: T119_15
def T119_13 : List Tok := (.if_icmp .ne 5, 3, 0, 0) :: T119_14
def T119_12 : List Tok := (.iaload, 1, 0, 0) :: T119_13
def T119_11 : List Tok := (.iload_n 1, 1, 0, 0) :: T119_12
def T119_10 : List Tok := (.getfield 42, 3, 591, 236) :: T119_11
def T119_9 : List Tok := (.aload_n 0, 1, 0, 0) :: T119_10
def T119_8 : List Tok := (.iaload, 1, 0, 0) :: T119_9
def T119_7 : List Tok := (.iload_n 2, 1, 0, 0) :: T119_8
def T119_6 : List Tok := (.getfield 42, 3, 591, 236) :: T119_7
def T119_5 : List Tok := (.aload_n 0, 1, 0, 0) :: T119_6
def T119_4 : List Tok := (.if_icmp .ge 26, 3, 0, 0) :: T119_5
def T119_3 : List Tok := (.iload_n 1, 1, 0, 0) :: T119_4
def T119_2 : List Tok := (.iload_n 2, 1, 0, 0) :: T119_3
def T119_1 : List Tok := (.istore_n 2, 1, 0, 0) :: T119_2
def T119_0 : List Tok := (.iconst 0, 1, 0, 0) :: T119_1
theorem o119_0 (hB : BytesOK) : okL 119 0 T119_0 = true := by
  have h := hB.1 119
  rw [show tk 119 = T119_0 from by decide +kernel] at h
  exact h
theorem o119_1 (hB : BytesOK) : okL 119 1 T119_1 = true := (okL_c (o119_0 hB)).2.2
theorem o119_2 (hB : BytesOK) : okL 119 2 T119_2 = true := (okL_c (o119_1 hB)).2.2
theorem o119_3 (hB : BytesOK) : okL 119 3 T119_3 = true := (okL_c (o119_2 hB)).2.2
theorem o119_4 (hB : BytesOK) : okL 119 4 T119_4 = true := (okL_c (o119_3 hB)).2.2
theorem o119_5 (hB : BytesOK) : okL 119 7 T119_5 = true := (okL_c (o119_4 hB)).2.2
theorem o119_6 (hB : BytesOK) : okL 119 8 T119_6 = true := (okL_c (o119_5 hB)).2.2
theorem o119_7 (hB : BytesOK) : okL 119 11 T119_7 = true := (okL_c (o119_6 hB)).2.2
theorem o119_8 (hB : BytesOK) : okL 119 12 T119_8 = true := (okL_c (o119_7 hB)).2.2
theorem o119_9 (hB : BytesOK) : okL 119 13 T119_9 = true := (okL_c (o119_8 hB)).2.2
theorem o119_10 (hB : BytesOK) : okL 119 14 T119_10 = true := (okL_c (o119_9 hB)).2.2
theorem o119_11 (hB : BytesOK) : okL 119 17 T119_11 = true := (okL_c (o119_10 hB)).2.2
theorem o119_12 (hB : BytesOK) : okL 119 18 T119_12 = true := (okL_c (o119_11 hB)).2.2
theorem o119_13 (hB : BytesOK) : okL 119 19 T119_13 = true := (okL_c (o119_12 hB)).2.2
theorem o119_14 (hB : BytesOK) : okL 119 22 T119_14 = true := (okL_c (o119_13 hB)).2.2
theorem o119_15 (hB : BytesOK) : okL 119 23 T119_15 = true := (okL_c (o119_14 hB)).2.2
theorem o119_16 (hB : BytesOK) : okL 119 24 T119_16 = true := (okL_c (o119_15 hB)).2.2
theorem o119_17 (hB : BytesOK) : okL 119 27 T119_17 = true := (okL_c (o119_16 hB)).2.2
theorem o119_18 (hB : BytesOK) : okL 119 30 T119_18 = true := (okL_c (o119_17 hB)).2.2
theorem o119_19 (hB : BytesOK) : okL 119 31 T119_19 = true := (okL_c (o119_18 hB)).2.2
theorem ml119 : mml 119 = 3 := by decide +kernel
theorem mr119 : mret 119 = some .boolean := by decide +kernel
theorem mg119 : kGood 119 = true := by decide +kernel

def T120_25 : List Tok := []
def T120_24 : List Tok := (.ireturn, 1, 0, 0) :: T120_25
def T120_23 : List Tok := (.iload_n 2, 1, 0, 0) :: T120_24
def T120_22 : List Tok := (.goto (-32), 3, 0, 0) :: T120_23
def T120_21 : List Tok := (.iinc 3 1, 3, 0, 0) :: T120_22
def T120_20 : List Tok := (.istore_n 2, 1, 0, 0) :: T120_21
def T120_19 : List Tok := (.invokestatic 110, 3, 298, 995) :: T120_20
def T120_18 : List Tok := (.iaload, 1, 0, 0) :: T120_19
def T120_17 : List Tok := (.iload_n 3, 1, 0, 0) :: T120_18
def T120_16 : List Tok := (.getfield 45, 3, 592, 237) :: T120_17
def T120_15 : List Tok := (.aload_n 0, 1, 0, 0) :: T120_16
def T120_14 : List Tok := (.iload_n 2, 1, 0, 0) :: T120_15
def T120_13 : List Tok := (.if_icmp .ne 14, 3, 0, 0) :: T120_14
def T120_12 : List Tok := (.iload_n 1, 1, 0, 0) :: T120_13
def T120_11 : List Tok := (.iaload, 1, 0, 0) :: T120_12
def T120_10 : List Tok := (.iload_n 3, 1, 0, 0) :: T120_11
def T120_9 : List Tok := (.getfield 42, 3, 591, 236) :: T120_10
def T120_8 : List Tok := (.aload_n 0, 1, 0, 0) :: T120_9
def T120_7 : List Tok := (.if_icmp .ge 30, 3, 0, 0) :: T120_8
def T120_6 : List Tok := (.getfield 98, 3, 590, 234) :: T120_7
def T120_5 : List Tok := (.aload_n 0, 1, 0, 0) :: T120_6
def T120_4 : List Tok := (.iload_n 3, 1, 0, 0) :: T120_5
def T120_3 : List Tok := (.istore_n 3, 1, 0, 0) :: T120_4
def T120_2 : List Tok := (.iconst 0, 1, 0, 0) :: T120_3
def T120_1 : List Tok := (.istore_n 2, 1, 0, 0) :: T120_2
def T120_0 : List Tok := (.iconst 0, 1, 0, 0) :: T120_1
theorem o120_0 (hB : BytesOK) : okL 120 0 T120_0 = true := by
  have h := hB.1 120
  rw [show tk 120 = T120_0 from by decide +kernel] at h
  exact h
theorem o120_1 (hB : BytesOK) : okL 120 1 T120_1 = true := (okL_c (o120_0 hB)).2.2
theorem o120_2 (hB : BytesOK) : okL 120 2 T120_2 = true := (okL_c (o120_1 hB)).2.2
theorem o120_3 (hB : BytesOK) : okL 120 3 T120_3 = true := (okL_c (o120_2 hB)).2.2
theorem o120_4 (hB : BytesOK) : okL 120 4 T120_4 = true := (okL_c (o120_3 hB)).2.2
theorem o120_5 (hB : BytesOK) : okL 120 5 T120_5 = true := (okL_c (o120_4 hB)).2.2
theorem o120_6 (hB : BytesOK) : okL 120 6 T120_6 = true := (okL_c (o120_5 hB)).2.2
theorem o120_7 (hB : BytesOK) : okL 120 9 T120_7 = true := (okL_c (o120_6 hB)).2.2
theorem o120_8 (hB : BytesOK) : okL 120 12 T120_8 = true := (okL_c (o120_7 hB)).2.2
theorem o120_9 (hB : BytesOK) : okL 120 13 T120_9 = true := (okL_c (o120_8 hB)).2.2
theorem o120_10 (hB : BytesOK) : okL 120 16 T120_10 = true := (okL_c (o120_9 hB)).2.2
theorem o120_11 (hB : BytesOK) : okL 120 17 T120_11 = true := (okL_c (o120_10 hB)).2.2
theorem o120_12 (hB : BytesOK) : okL 120 18 T120_12 = true := (okL_c (o120_11 hB)).2.2
theorem o120_13 (hB : BytesOK) : okL 120 19 T120_13 = true := (okL_c (o120_12 hB)).2.2
theorem o120_14 (hB : BytesOK) : okL 120 22 T120_14 = true := (okL_c (o120_13 hB)).2.2
theorem o120_15 (hB : BytesOK) : okL 120 23 T120_15 = true := (okL_c (o120_14 hB)).2.2
theorem o120_16 (hB : BytesOK) : okL 120 24 T120_16 = true := (okL_c (o120_15 hB)).2.2
theorem o120_17 (hB : BytesOK) : okL 120 27 T120_17 = true := (okL_c (o120_16 hB)).2.2
theorem o120_18 (hB : BytesOK) : okL 120 28 T120_18 = true := (okL_c (o120_17 hB)).2.2
theorem o120_19 (hB : BytesOK) : okL 120 29 T120_19 = true := (okL_c (o120_18 hB)).2.2
theorem o120_20 (hB : BytesOK) : okL 120 32 T120_20 = true := (okL_c (o120_19 hB)).2.2
theorem o120_21 (hB : BytesOK) : okL 120 33 T120_21 = true := (okL_c (o120_20 hB)).2.2
theorem o120_22 (hB : BytesOK) : okL 120 36 T120_22 = true := (okL_c (o120_21 hB)).2.2
theorem o120_23 (hB : BytesOK) : okL 120 39 T120_23 = true := (okL_c (o120_22 hB)).2.2
theorem o120_24 (hB : BytesOK) : okL 120 40 T120_24 = true := (okL_c (o120_23 hB)).2.2
theorem ml120 : mml 120 = 4 := by decide +kernel
theorem mr120 : mret 120 = some .int := by decide +kernel
theorem mg120 : kGood 120 = true := by decide +kernel

def T121_81 : List Tok := []
def T121_80 : List Tok := (.return_, 1, 0, 0) :: T121_81
def T121_79 : List Tok := (.invokestatic 113, 3, 178, 300000) :: T121_80
def T121_78 : List Tok := (.getfield 45, 3, 592, 237) :: T121_79
def T121_77 : List Tok := (.aload_n 0, 1, 0, 0) :: T121_78
def T121_76 : List Tok := (.getfield 45, 3, 592, 237) :: T121_77
def T121_75 : List Tok := (.aload_n 1, 1, 0, 0) :: T121_76
def T121_74 : List Tok := (.invokestatic 113, 3, 178, 300000) :: T121_75
def T121_73 : List Tok := (.getfield 42, 3, 591, 236) :: T121_74
def T121_72 : List Tok := (.aload_n 0, 1, 0, 0) :: T121_73
def T121_71 : List Tok := (.getfield 42, 3, 591, 236) :: T121_72
def T121_70 : List Tok := (.aload_n 1, 1, 0, 0) :: T121_71
def T121_69 : List Tok := (.putfield 98, 3, 590, 234) :: T121_70
def T121_68 : List Tok := (.getfield 98, 3, 590, 234) :: T121_69
def T121_67 : List Tok := (.aload_n 1, 1, 0, 0) :: T121_68
def T121_66 : List Tok := (.aload_n 0, 1, 0, 0) :: T121_67
def T121_65 : List Tok := (.invokestatic 113, 3, 178, 300000) :: T121_66
def T121_64 : List Tok := (.getfield 39, 3, 589, 233) :: T121_65
def T121_63 : List Tok := (.aload_n 0, 1, 0, 0) :: T121_64
def T121_62 : List Tok := (.getfield 39, 3, 589, 233) :: T121_63
def T121_61 : List Tok := (.aload_n 1, 1, 0, 0) :: T121_62
def T121_60 : List Tok := (.invokestatic 113, 3, 178, 300000) :: T121_61
def T121_59 : List Tok := (.getfield 36, 3, 588, 232) :: T121_60
def T121_58 : List Tok := (.aload_n 0, 1, 0, 0) :: T121_59
def T121_57 : List Tok := (.getfield 36, 3, 588, 232) :: T121_58
def T121_56 : List Tok := (.aload_n 1, 1, 0, 0) :: T121_57
def T121_55 : List Tok := (.invokestatic 113, 3, 178, 300000) :: T121_56
def T121_54 : List Tok := (.getfield 33, 3, 587, 231) :: T121_55
def T121_53 : List Tok := (.aload_n 0, 1, 0, 0) :: T121_54
def T121_52 : List Tok := (.getfield 33, 3, 587, 231) :: T121_53
def T121_51 : List Tok := (.aload_n 1, 1, 0, 0) :: T121_52
def T121_50 : List Tok := (.putfield 92, 3, 586, 229) :: T121_51
def T121_49 : List Tok := (.getfield 92, 3, 586, 229) :: T121_50
def T121_48 : List Tok := (.aload_n 1, 1, 0, 0) :: T121_49
def T121_47 : List Tok := (.aload_n 0, 1, 0, 0) :: T121_48
def T121_46 : List Tok := (.invokestatic 113, 3, 178, 300000) :: T121_47
def T121_45 : List Tok := (.getfield 30, 3, 585, 228) :: T121_46
def T121_44 : List Tok := (.aload_n 0, 1, 0, 0) :: T121_45
def T121_43 : List Tok := (.getfield 30, 3, 585, 228) :: T121_44
def T121_42 : List Tok := (.aload_n 1, 1, 0, 0) :: T121_43
def T121_41 : List Tok := (.invokestatic 113, 3, 178, 300000) :: T121_42
def T121_40 : List Tok := (.getfield 27, 3, 584, 227) :: T121_41
def T121_39 : List Tok := (.aload_n 0, 1, 0, 0) :: T121_40
def T121_38 : List Tok := (.getfield 27, 3, 584, 227) :: T121_39
def T121_37 : List Tok := (.aload_n 1, 1, 0, 0) :: T121_38
def T121_36 : List Tok := (.invokestatic 113, 3, 178, 300000) :: T121_37
def T121_35 : List Tok := (.getfield 24, 3, 583, 225) :: T121_36
def T121_34 : List Tok := (.aload_n 0, 1, 0, 0) :: T121_35
def T121_33 : List Tok := (.getfield 24, 3, 583, 225) :: T121_34
def T121_32 : List Tok := (.aload_n 1, 1, 0, 0) :: T121_33
def T121_31 : List Tok := (.invokestatic 113, 3, 178, 300000) :: T121_32
def T121_30 : List Tok := (.getfield 21, 3, 582, 224) :: T121_31
def T121_29 : List Tok := (.aload_n 0, 1, 0, 0) :: T121_30
def T121_28 : List Tok := (.getfield 21, 3, 582, 224) :: T121_29
def T121_27 : List Tok := (.aload_n 1, 1, 0, 0) :: T121_28
def T121_26 : List Tok := (.putfield 62, 3, 581, 223) :: T121_27
def T121_25 : List Tok := (.getfield 62, 3, 581, 223) :: T121_26
def T121_24 : List Tok := (.aload_n 1, 1, 0, 0) :: T121_25
def T121_23 : List Tok := (.aload_n 0, 1, 0, 0) :: T121_24
def T121_22 : List Tok := (.putfield 59, 3, 580, 221) :: T121_23
def T121_21 : List Tok := (.getfield 59, 3, 580, 221) :: T121_22
def T121_20 : List Tok := (.aload_n 1, 1, 0, 0) :: T121_21
def T121_19 : List Tok := (.aload_n 0, 1, 0, 0) :: T121_20
def T121_18 : List Tok := (.invokestatic 113, 3, 178, 300000) :: T121_19
def T121_17 : List Tok := (.getfield 18, 3, 579, 220) :: T121_18
def T121_16 : List Tok := (.aload_n 0, 1, 0, 0) :: T121_17
def T121_15 : List Tok := (.getfield 18, 3, 579, 220) :: T121_16
def T121_14 : List Tok := (.aload_n 1, 1, 0, 0) :: T121_15
def T121_13 : List Tok := (.invokestatic 113, 3, 178, 300000) :: T121_14
def T121_12 : List Tok := (.getfield 15, 3, 578, 218) :: T121_13
def T121_11 : List Tok := (.aload_n 0, 1, 0, 0) :: T121_12
def T121_10 : List Tok := (.getfield 15, 3, 578, 218) :: T121_11
def T121_9 : List Tok := (.aload_n 1, 1, 0, 0) :: T121_10
def T121_8 : List Tok := (.invokestatic 113, 3, 178, 300000) :: T121_9
def T121_7 : List Tok := (.getfield 9, 3, 577, 217) :: T121_8
def T121_6 : List Tok := (.aload_n 0, 1, 0, 0) :: T121_7
def T121_5 : List Tok := (.getfield 9, 3, 577, 217) :: T121_6
def T121_4 : List Tok := (.aload_n 1, 1, 0, 0) :: T121_5
def T121_3 : List Tok := (.putfield 48, 3, 576, 215) :: T121_4
def T121_2 : List Tok := (.getfield 48, 3, 576, 215) :: T121_3
def T121_1 : List Tok := (.aload_n 1, 1, 0, 0) :: T121_2
def T121_0 : List Tok := (.aload_n 0, 1, 0, 0) :: T121_1
theorem o121_0 (hB : BytesOK) : okL 121 0 T121_0 = true := by
  have h := hB.1 121
  rw [show tk 121 = T121_0 from by decide +kernel] at h
  exact h
theorem o121_1 (hB : BytesOK) : okL 121 1 T121_1 = true := (okL_c (o121_0 hB)).2.2
theorem o121_2 (hB : BytesOK) : okL 121 2 T121_2 = true := (okL_c (o121_1 hB)).2.2
theorem o121_3 (hB : BytesOK) : okL 121 5 T121_3 = true := (okL_c (o121_2 hB)).2.2
theorem o121_4 (hB : BytesOK) : okL 121 8 T121_4 = true := (okL_c (o121_3 hB)).2.2
theorem o121_5 (hB : BytesOK) : okL 121 9 T121_5 = true := (okL_c (o121_4 hB)).2.2
theorem o121_6 (hB : BytesOK) : okL 121 12 T121_6 = true := (okL_c (o121_5 hB)).2.2
theorem o121_7 (hB : BytesOK) : okL 121 13 T121_7 = true := (okL_c (o121_6 hB)).2.2
theorem o121_8 (hB : BytesOK) : okL 121 16 T121_8 = true := (okL_c (o121_7 hB)).2.2
theorem o121_9 (hB : BytesOK) : okL 121 19 T121_9 = true := (okL_c (o121_8 hB)).2.2
theorem o121_10 (hB : BytesOK) : okL 121 20 T121_10 = true := (okL_c (o121_9 hB)).2.2
theorem o121_11 (hB : BytesOK) : okL 121 23 T121_11 = true := (okL_c (o121_10 hB)).2.2
theorem o121_12 (hB : BytesOK) : okL 121 24 T121_12 = true := (okL_c (o121_11 hB)).2.2
theorem o121_13 (hB : BytesOK) : okL 121 27 T121_13 = true := (okL_c (o121_12 hB)).2.2
theorem o121_14 (hB : BytesOK) : okL 121 30 T121_14 = true := (okL_c (o121_13 hB)).2.2
theorem o121_15 (hB : BytesOK) : okL 121 31 T121_15 = true := (okL_c (o121_14 hB)).2.2
theorem o121_16 (hB : BytesOK) : okL 121 34 T121_16 = true := (okL_c (o121_15 hB)).2.2
theorem o121_17 (hB : BytesOK) : okL 121 35 T121_17 = true := (okL_c (o121_16 hB)).2.2
theorem o121_18 (hB : BytesOK) : okL 121 38 T121_18 = true := (okL_c (o121_17 hB)).2.2
theorem o121_19 (hB : BytesOK) : okL 121 41 T121_19 = true := (okL_c (o121_18 hB)).2.2
theorem o121_20 (hB : BytesOK) : okL 121 42 T121_20 = true := (okL_c (o121_19 hB)).2.2
theorem o121_21 (hB : BytesOK) : okL 121 43 T121_21 = true := (okL_c (o121_20 hB)).2.2
theorem o121_22 (hB : BytesOK) : okL 121 46 T121_22 = true := (okL_c (o121_21 hB)).2.2
theorem o121_23 (hB : BytesOK) : okL 121 49 T121_23 = true := (okL_c (o121_22 hB)).2.2
theorem o121_24 (hB : BytesOK) : okL 121 50 T121_24 = true := (okL_c (o121_23 hB)).2.2
theorem o121_25 (hB : BytesOK) : okL 121 51 T121_25 = true := (okL_c (o121_24 hB)).2.2
theorem o121_26 (hB : BytesOK) : okL 121 54 T121_26 = true := (okL_c (o121_25 hB)).2.2
theorem o121_27 (hB : BytesOK) : okL 121 57 T121_27 = true := (okL_c (o121_26 hB)).2.2
theorem o121_28 (hB : BytesOK) : okL 121 58 T121_28 = true := (okL_c (o121_27 hB)).2.2
theorem o121_29 (hB : BytesOK) : okL 121 61 T121_29 = true := (okL_c (o121_28 hB)).2.2
theorem o121_30 (hB : BytesOK) : okL 121 62 T121_30 = true := (okL_c (o121_29 hB)).2.2
theorem o121_31 (hB : BytesOK) : okL 121 65 T121_31 = true := (okL_c (o121_30 hB)).2.2
theorem o121_32 (hB : BytesOK) : okL 121 68 T121_32 = true := (okL_c (o121_31 hB)).2.2
theorem o121_33 (hB : BytesOK) : okL 121 69 T121_33 = true := (okL_c (o121_32 hB)).2.2
theorem o121_34 (hB : BytesOK) : okL 121 72 T121_34 = true := (okL_c (o121_33 hB)).2.2
theorem o121_35 (hB : BytesOK) : okL 121 73 T121_35 = true := (okL_c (o121_34 hB)).2.2
theorem o121_36 (hB : BytesOK) : okL 121 76 T121_36 = true := (okL_c (o121_35 hB)).2.2
theorem o121_37 (hB : BytesOK) : okL 121 79 T121_37 = true := (okL_c (o121_36 hB)).2.2
theorem o121_38 (hB : BytesOK) : okL 121 80 T121_38 = true := (okL_c (o121_37 hB)).2.2
theorem o121_39 (hB : BytesOK) : okL 121 83 T121_39 = true := (okL_c (o121_38 hB)).2.2
theorem o121_40 (hB : BytesOK) : okL 121 84 T121_40 = true := (okL_c (o121_39 hB)).2.2
theorem o121_41 (hB : BytesOK) : okL 121 87 T121_41 = true := (okL_c (o121_40 hB)).2.2
theorem o121_42 (hB : BytesOK) : okL 121 90 T121_42 = true := (okL_c (o121_41 hB)).2.2
theorem o121_43 (hB : BytesOK) : okL 121 91 T121_43 = true := (okL_c (o121_42 hB)).2.2
theorem o121_44 (hB : BytesOK) : okL 121 94 T121_44 = true := (okL_c (o121_43 hB)).2.2
theorem o121_45 (hB : BytesOK) : okL 121 95 T121_45 = true := (okL_c (o121_44 hB)).2.2
theorem o121_46 (hB : BytesOK) : okL 121 98 T121_46 = true := (okL_c (o121_45 hB)).2.2
theorem o121_47 (hB : BytesOK) : okL 121 101 T121_47 = true := (okL_c (o121_46 hB)).2.2
theorem o121_48 (hB : BytesOK) : okL 121 102 T121_48 = true := (okL_c (o121_47 hB)).2.2
theorem o121_49 (hB : BytesOK) : okL 121 103 T121_49 = true := (okL_c (o121_48 hB)).2.2
theorem o121_50 (hB : BytesOK) : okL 121 106 T121_50 = true := (okL_c (o121_49 hB)).2.2
theorem o121_51 (hB : BytesOK) : okL 121 109 T121_51 = true := (okL_c (o121_50 hB)).2.2
theorem o121_52 (hB : BytesOK) : okL 121 110 T121_52 = true := (okL_c (o121_51 hB)).2.2
theorem o121_53 (hB : BytesOK) : okL 121 113 T121_53 = true := (okL_c (o121_52 hB)).2.2
theorem o121_54 (hB : BytesOK) : okL 121 114 T121_54 = true := (okL_c (o121_53 hB)).2.2
theorem o121_55 (hB : BytesOK) : okL 121 117 T121_55 = true := (okL_c (o121_54 hB)).2.2
theorem o121_56 (hB : BytesOK) : okL 121 120 T121_56 = true := (okL_c (o121_55 hB)).2.2
theorem o121_57 (hB : BytesOK) : okL 121 121 T121_57 = true := (okL_c (o121_56 hB)).2.2
theorem o121_58 (hB : BytesOK) : okL 121 124 T121_58 = true := (okL_c (o121_57 hB)).2.2
theorem o121_59 (hB : BytesOK) : okL 121 125 T121_59 = true := (okL_c (o121_58 hB)).2.2
theorem o121_60 (hB : BytesOK) : okL 121 128 T121_60 = true := (okL_c (o121_59 hB)).2.2
theorem o121_61 (hB : BytesOK) : okL 121 131 T121_61 = true := (okL_c (o121_60 hB)).2.2
theorem o121_62 (hB : BytesOK) : okL 121 132 T121_62 = true := (okL_c (o121_61 hB)).2.2
theorem o121_63 (hB : BytesOK) : okL 121 135 T121_63 = true := (okL_c (o121_62 hB)).2.2
theorem o121_64 (hB : BytesOK) : okL 121 136 T121_64 = true := (okL_c (o121_63 hB)).2.2
theorem o121_65 (hB : BytesOK) : okL 121 139 T121_65 = true := (okL_c (o121_64 hB)).2.2
theorem o121_66 (hB : BytesOK) : okL 121 142 T121_66 = true := (okL_c (o121_65 hB)).2.2
theorem o121_67 (hB : BytesOK) : okL 121 143 T121_67 = true := (okL_c (o121_66 hB)).2.2
theorem o121_68 (hB : BytesOK) : okL 121 144 T121_68 = true := (okL_c (o121_67 hB)).2.2
theorem o121_69 (hB : BytesOK) : okL 121 147 T121_69 = true := (okL_c (o121_68 hB)).2.2
theorem o121_70 (hB : BytesOK) : okL 121 150 T121_70 = true := (okL_c (o121_69 hB)).2.2
theorem o121_71 (hB : BytesOK) : okL 121 151 T121_71 = true := (okL_c (o121_70 hB)).2.2
theorem o121_72 (hB : BytesOK) : okL 121 154 T121_72 = true := (okL_c (o121_71 hB)).2.2
theorem o121_73 (hB : BytesOK) : okL 121 155 T121_73 = true := (okL_c (o121_72 hB)).2.2
theorem o121_74 (hB : BytesOK) : okL 121 158 T121_74 = true := (okL_c (o121_73 hB)).2.2
theorem o121_75 (hB : BytesOK) : okL 121 161 T121_75 = true := (okL_c (o121_74 hB)).2.2
theorem o121_76 (hB : BytesOK) : okL 121 162 T121_76 = true := (okL_c (o121_75 hB)).2.2
theorem o121_77 (hB : BytesOK) : okL 121 165 T121_77 = true := (okL_c (o121_76 hB)).2.2
theorem o121_78 (hB : BytesOK) : okL 121 166 T121_78 = true := (okL_c (o121_77 hB)).2.2
theorem o121_79 (hB : BytesOK) : okL 121 169 T121_79 = true := (okL_c (o121_78 hB)).2.2
theorem o121_80 (hB : BytesOK) : okL 121 172 T121_80 = true := (okL_c (o121_79 hB)).2.2
theorem ml121 : mml 121 = 2 := by decide +kernel
theorem mr121 : mret 121 = none := by decide +kernel
theorem mg121 : kGood 121 = true := by decide +kernel

def T123_31 : List Tok := []
def T123_30 : List Tok := (.ireturn, 1, 0, 0) :: T123_31
def T123_29 : List Tok := (.getfield 58, 3, 192, 121) :: T123_30
def T123_28 : List Tok := (.getfield 54, 3, 128, 366) :: T123_29
def T123_27 : List Tok := (.getfield 10, 3, 640, 497) :: T123_28
def T123_26 : List Tok := (.aload_n 0, 1, 0, 0) :: T123_27
def T123_25 : List Tok := (.putfield 58, 3, 192, 121) :: T123_26
def T123_24 : List Tok := (.iadd, 1, 0, 0) :: T123_25
def T123_23 : List Tok := (.iload_n 1, 1, 0, 0) :: T123_24
def T123_22 : List Tok := (.getfield 58, 3, 192, 121) :: T123_23
def T123_21 : List Tok := (.dup, 1, 0, 0) :: T123_22
def T123_20 : List Tok := (.getfield 54, 3, 128, 366) :: T123_21
def T123_19 : List Tok := (.getfield 10, 3, 640, 497) :: T123_20
def T123_18 : List Tok := (.aload_n 0, 1, 0, 0) :: T123_19
def T123_17 : List Tok := (.ireturn, 1, 0, 0) :: T123_18
def T123_16 : List Tok := (.bipush (-4), 2, 0, 0) :: T123_17
def T123_15 : List Tok := (.if_icmp .lt 6, 3, 0, 0) :: T123_16
def T123_14 : List Tok := (.sipush 240, 3, 0, 0) :: T123_15
def T123_13 : List Tok := (.iadd, 1, 0, 0) :: T123_14
def T123_12 : List Tok := (.iload_n 1, 1, 0, 0) :: T123_13
def T123_11 : List Tok := (.getfield 58, 3, 192, 121) :: T123_12
def T123_10 : List Tok := (.getfield 54, 3, 128, 366) :: T123_11
def T123_9 : List Tok := (.getfield 10, 3, 640, 497) :: T123_10
def T123_8 : List Tok := (.aload_n 0, 1, 0, 0) :: T123_9
def T123_7 : List Tok := (.ireturn, 1, 0, 0) :: T123_8
def T123_6 : List Tok := (.iconst (-1), 1, 0, 0) :: T123_7
def T123_5 : List Tok := (.if_icmp .le 5, 3, 0, 0) :: T123_6
def T123_4 : List Tok := (.bipush 60, 2, 0, 0) :: T123_5
def T123_3 : List Tok := (.iload_n 1, 1, 0, 0) :: T123_4
def T123_2 : List Tok := (.if_icmp .lt 9, 3, 0, 0) :: T123_3
def T123_1 : List Tok := (.iconst 1, 1, 0, 0) :: T123_2
def T123_0 : List Tok := (.iload_n 1, 1, 0, 0) :: T123_1
theorem o123_0 (hB : BytesOK) : okL 123 0 T123_0 = true := by
  have h := hB.1 123
  rw [show tk 123 = T123_0 from by decide +kernel] at h
  exact h
theorem o123_1 (hB : BytesOK) : okL 123 1 T123_1 = true := (okL_c (o123_0 hB)).2.2
theorem o123_2 (hB : BytesOK) : okL 123 2 T123_2 = true := (okL_c (o123_1 hB)).2.2
theorem o123_3 (hB : BytesOK) : okL 123 5 T123_3 = true := (okL_c (o123_2 hB)).2.2
theorem o123_4 (hB : BytesOK) : okL 123 6 T123_4 = true := (okL_c (o123_3 hB)).2.2
theorem o123_5 (hB : BytesOK) : okL 123 8 T123_5 = true := (okL_c (o123_4 hB)).2.2
theorem o123_6 (hB : BytesOK) : okL 123 11 T123_6 = true := (okL_c (o123_5 hB)).2.2
theorem o123_7 (hB : BytesOK) : okL 123 12 T123_7 = true := (okL_c (o123_6 hB)).2.2
theorem o123_8 (hB : BytesOK) : okL 123 13 T123_8 = true := (okL_c (o123_7 hB)).2.2
theorem o123_9 (hB : BytesOK) : okL 123 14 T123_9 = true := (okL_c (o123_8 hB)).2.2
theorem o123_10 (hB : BytesOK) : okL 123 17 T123_10 = true := (okL_c (o123_9 hB)).2.2
theorem o123_11 (hB : BytesOK) : okL 123 20 T123_11 = true := (okL_c (o123_10 hB)).2.2
theorem o123_12 (hB : BytesOK) : okL 123 23 T123_12 = true := (okL_c (o123_11 hB)).2.2
theorem o123_13 (hB : BytesOK) : okL 123 24 T123_13 = true := (okL_c (o123_12 hB)).2.2
theorem o123_14 (hB : BytesOK) : okL 123 25 T123_14 = true := (okL_c (o123_13 hB)).2.2
theorem o123_15 (hB : BytesOK) : okL 123 28 T123_15 = true := (okL_c (o123_14 hB)).2.2
theorem o123_16 (hB : BytesOK) : okL 123 31 T123_16 = true := (okL_c (o123_15 hB)).2.2
theorem o123_17 (hB : BytesOK) : okL 123 33 T123_17 = true := (okL_c (o123_16 hB)).2.2
theorem o123_18 (hB : BytesOK) : okL 123 34 T123_18 = true := (okL_c (o123_17 hB)).2.2
theorem o123_19 (hB : BytesOK) : okL 123 35 T123_19 = true := (okL_c (o123_18 hB)).2.2
theorem o123_20 (hB : BytesOK) : okL 123 38 T123_20 = true := (okL_c (o123_19 hB)).2.2
theorem o123_21 (hB : BytesOK) : okL 123 41 T123_21 = true := (okL_c (o123_20 hB)).2.2
theorem o123_22 (hB : BytesOK) : okL 123 42 T123_22 = true := (okL_c (o123_21 hB)).2.2
theorem o123_23 (hB : BytesOK) : okL 123 45 T123_23 = true := (okL_c (o123_22 hB)).2.2
theorem o123_24 (hB : BytesOK) : okL 123 46 T123_24 = true := (okL_c (o123_23 hB)).2.2
theorem o123_25 (hB : BytesOK) : okL 123 47 T123_25 = true := (okL_c (o123_24 hB)).2.2
theorem o123_26 (hB : BytesOK) : okL 123 50 T123_26 = true := (okL_c (o123_25 hB)).2.2
theorem o123_27 (hB : BytesOK) : okL 123 51 T123_27 = true := (okL_c (o123_26 hB)).2.2
theorem o123_28 (hB : BytesOK) : okL 123 54 T123_28 = true := (okL_c (o123_27 hB)).2.2
theorem o123_29 (hB : BytesOK) : okL 123 57 T123_29 = true := (okL_c (o123_28 hB)).2.2
theorem o123_30 (hB : BytesOK) : okL 123 60 T123_30 = true := (okL_c (o123_29 hB)).2.2
theorem ml123 : mml 123 = 2 := by decide +kernel
theorem mr123 : mret 123 = some .int := by decide +kernel
theorem mg123 : kGood 123 = true := by decide +kernel

def T138_24 : List Tok := []
def T138_23 : List Tok := (.ireturn, 1, 0, 0) :: T138_24
def T138_22 : List Tok := (.invokevirtual 157, 3, 107, 851) :: T138_23
def T138_21 : List Tok := (.getfield 58, 3, 192, 121) :: T138_22
def T138_20 : List Tok := (.getfield 54, 3, 128, 366) :: T138_21
def T138_19 : List Tok := (.getfield 10, 3, 640, 497) :: T138_20
def T138_18 : List Tok := (.aload_n 0, 1, 0, 0) :: T138_19
def T138_17 : List Tok := (.iload_n 2, 1, 0, 0) :: T138_18
def T138_16 : List Tok := (.iload_n 1, 1, 0, 0) :: T138_17
def T138_15 : List Tok := (.getfield 153, 3, 130, 370) :: T138_16
def T138_14 : List Tok := (.getfield 10, 3, 640, 497) :: T138_15
def T138_13 : List Tok := (.aload_n 0, 1, 0, 0) :: T138_14
def T138_12 : List Tok := (.ireturn, 1, 0, 0) :: T138_13
def T138_11 : List Tok := (.iconst (-1), 1, 0, 0) :: T138_12
def T138_10 : List Tok := (.if_icmp .le 5, 3, 0, 0) :: T138_11
def T138_9 : List Tok := (.getfield 58, 3, 192, 121) :: T138_10
def T138_8 : List Tok := (.getfield 54, 3, 128, 366) :: T138_9
def T138_7 : List Tok := (.getfield 10, 3, 640, 497) :: T138_8
def T138_6 : List Tok := (.aload_n 0, 1, 0, 0) :: T138_7
def T138_5 : List Tok := (.irem, 1, 0, 0) :: T138_6
def T138_4 : List Tok := (.sipush 1000, 3, 0, 0) :: T138_5
def T138_3 : List Tok := (.iload_n 1, 1, 0, 0) :: T138_4
def T138_2 : List Tok := (.ifCond .eq 21, 3, 0, 0) :: T138_3
def T138_1 : List Tok := (.invokestatic 150, 3, 177, 848) :: T138_2
def T138_0 : List Tok := (.iload_n 1, 1, 0, 0) :: T138_1
theorem o138_0 (hB : BytesOK) : okL 138 0 T138_0 = true := by
  have h := hB.1 138
  rw [show tk 138 = T138_0 from by decide +kernel] at h
  exact h
theorem o138_1 (hB : BytesOK) : okL 138 1 T138_1 = true := (okL_c (o138_0 hB)).2.2
theorem o138_2 (hB : BytesOK) : okL 138 4 T138_2 = true := (okL_c (o138_1 hB)).2.2
theorem o138_3 (hB : BytesOK) : okL 138 7 T138_3 = true := (okL_c (o138_2 hB)).2.2
theorem o138_4 (hB : BytesOK) : okL 138 8 T138_4 = true := (okL_c (o138_3 hB)).2.2
theorem o138_5 (hB : BytesOK) : okL 138 11 T138_5 = true := (okL_c (o138_4 hB)).2.2
theorem o138_6 (hB : BytesOK) : okL 138 12 T138_6 = true := (okL_c (o138_5 hB)).2.2
theorem o138_7 (hB : BytesOK) : okL 138 13 T138_7 = true := (okL_c (o138_6 hB)).2.2
theorem o138_8 (hB : BytesOK) : okL 138 16 T138_8 = true := (okL_c (o138_7 hB)).2.2
theorem o138_9 (hB : BytesOK) : okL 138 19 T138_9 = true := (okL_c (o138_8 hB)).2.2
theorem o138_10 (hB : BytesOK) : okL 138 22 T138_10 = true := (okL_c (o138_9 hB)).2.2
theorem o138_11 (hB : BytesOK) : okL 138 25 T138_11 = true := (okL_c (o138_10 hB)).2.2
theorem o138_12 (hB : BytesOK) : okL 138 26 T138_12 = true := (okL_c (o138_11 hB)).2.2
theorem o138_13 (hB : BytesOK) : okL 138 27 T138_13 = true := (okL_c (o138_12 hB)).2.2
theorem o138_14 (hB : BytesOK) : okL 138 28 T138_14 = true := (okL_c (o138_13 hB)).2.2
theorem o138_15 (hB : BytesOK) : okL 138 31 T138_15 = true := (okL_c (o138_14 hB)).2.2
theorem o138_16 (hB : BytesOK) : okL 138 34 T138_16 = true := (okL_c (o138_15 hB)).2.2
theorem o138_17 (hB : BytesOK) : okL 138 35 T138_17 = true := (okL_c (o138_16 hB)).2.2
theorem o138_18 (hB : BytesOK) : okL 138 36 T138_18 = true := (okL_c (o138_17 hB)).2.2
theorem o138_19 (hB : BytesOK) : okL 138 37 T138_19 = true := (okL_c (o138_18 hB)).2.2
theorem o138_20 (hB : BytesOK) : okL 138 40 T138_20 = true := (okL_c (o138_19 hB)).2.2
theorem o138_21 (hB : BytesOK) : okL 138 43 T138_21 = true := (okL_c (o138_20 hB)).2.2
theorem o138_22 (hB : BytesOK) : okL 138 46 T138_22 = true := (okL_c (o138_21 hB)).2.2
theorem o138_23 (hB : BytesOK) : okL 138 49 T138_23 = true := (okL_c (o138_22 hB)).2.2
theorem ml138 : mml 138 = 3 := by decide +kernel
theorem mr138 : mret 138 = some .int := by decide +kernel
theorem mg138 : kGood 138 = true := by decide +kernel

def T139_15 : List Tok := []
def T139_14 : List Tok := (.ireturn, 1, 0, 0) :: T139_15
def T139_13 : List Tok := (.invokevirtual 163, 3, 108, 859) :: T139_14
def T139_12 : List Tok := (.iload_n 2, 1, 0, 0) :: T139_13
def T139_11 : List Tok := (.iload_n 1, 1, 0, 0) :: T139_12
def T139_10 : List Tok := (.getfield 153, 3, 130, 370) :: T139_11
def T139_9 : List Tok := (.getfield 10, 3, 640, 497) :: T139_10
def T139_8 : List Tok := (.aload_n 0, 1, 0, 0) :: T139_9
def T139_7 : List Tok := (.ireturn, 1, 0, 0) :: T139_8
def T139_6 : List Tok := (.iconst (-1), 1, 0, 0) :: T139_7
def T139_5 : List Tok := (.ifCond .ne 5, 3, 0, 0) :: T139_6
def T139_4 : List Tok := (.invokestatic 76, 3, 171, 563) :: T139_5
def T139_3 : List Tok := (.iload_n 2, 1, 0, 0) :: T139_4
def T139_2 : List Tok := (.ifCond .eq 10, 3, 0, 0) :: T139_3
def T139_1 : List Tok := (.invokestatic 150, 3, 177, 848) :: T139_2
def T139_0 : List Tok := (.iload_n 1, 1, 0, 0) :: T139_1
theorem o139_0 (hB : BytesOK) : okL 139 0 T139_0 = true := by
  have h := hB.1 139
  rw [show tk 139 = T139_0 from by decide +kernel] at h
  exact h
theorem o139_1 (hB : BytesOK) : okL 139 1 T139_1 = true := (okL_c (o139_0 hB)).2.2
theorem o139_2 (hB : BytesOK) : okL 139 4 T139_2 = true := (okL_c (o139_1 hB)).2.2
theorem o139_3 (hB : BytesOK) : okL 139 7 T139_3 = true := (okL_c (o139_2 hB)).2.2
theorem o139_4 (hB : BytesOK) : okL 139 8 T139_4 = true := (okL_c (o139_3 hB)).2.2
theorem o139_5 (hB : BytesOK) : okL 139 11 T139_5 = true := (okL_c (o139_4 hB)).2.2
theorem o139_6 (hB : BytesOK) : okL 139 14 T139_6 = true := (okL_c (o139_5 hB)).2.2
theorem o139_7 (hB : BytesOK) : okL 139 15 T139_7 = true := (okL_c (o139_6 hB)).2.2
theorem o139_8 (hB : BytesOK) : okL 139 16 T139_8 = true := (okL_c (o139_7 hB)).2.2
theorem o139_9 (hB : BytesOK) : okL 139 17 T139_9 = true := (okL_c (o139_8 hB)).2.2
theorem o139_10 (hB : BytesOK) : okL 139 20 T139_10 = true := (okL_c (o139_9 hB)).2.2
theorem o139_11 (hB : BytesOK) : okL 139 23 T139_11 = true := (okL_c (o139_10 hB)).2.2
theorem o139_12 (hB : BytesOK) : okL 139 24 T139_12 = true := (okL_c (o139_11 hB)).2.2
theorem o139_13 (hB : BytesOK) : okL 139 25 T139_13 = true := (okL_c (o139_12 hB)).2.2
theorem o139_14 (hB : BytesOK) : okL 139 28 T139_14 = true := (okL_c (o139_13 hB)).2.2
theorem ml139 : mml 139 = 3 := by decide +kernel
theorem mr139 : mret 139 = some .int := by decide +kernel
theorem mg139 : kGood 139 = true := by decide +kernel

def T145_8 : List Tok := []
def T145_7 : List Tok := (.ireturn, 1, 0, 0) :: T145_8
def T145_6 : List Tok := (.invokevirtual 187, 3, 117, 974) :: T145_7
def T145_5 : List Tok := (.iload_n 3, 1, 0, 0) :: T145_6
def T145_4 : List Tok := (.iload_n 2, 1, 0, 0) :: T145_5
def T145_3 : List Tok := (.iload_n 1, 1, 0, 0) :: T145_4
def T145_2 : List Tok := (.getfield 153, 3, 130, 370) :: T145_3
def T145_1 : List Tok := (.getfield 10, 3, 640, 497) :: T145_2
def T145_0 : List Tok := (.aload_n 0, 1, 0, 0) :: T145_1
theorem o145_0 (hB : BytesOK) : okL 145 0 T145_0 = true := by
  have h := hB.1 145
  rw [show tk 145 = T145_0 from by decide +kernel] at h
  exact h
theorem o145_1 (hB : BytesOK) : okL 145 1 T145_1 = true := (okL_c (o145_0 hB)).2.2
theorem o145_2 (hB : BytesOK) : okL 145 4 T145_2 = true := (okL_c (o145_1 hB)).2.2
theorem o145_3 (hB : BytesOK) : okL 145 7 T145_3 = true := (okL_c (o145_2 hB)).2.2
theorem o145_4 (hB : BytesOK) : okL 145 8 T145_4 = true := (okL_c (o145_3 hB)).2.2
theorem o145_5 (hB : BytesOK) : okL 145 9 T145_5 = true := (okL_c (o145_4 hB)).2.2
theorem o145_6 (hB : BytesOK) : okL 145 10 T145_6 = true := (okL_c (o145_5 hB)).2.2
theorem o145_7 (hB : BytesOK) : okL 145 13 T145_7 = true := (okL_c (o145_6 hB)).2.2
theorem ml145 : mml 145 = 4 := by decide +kernel
theorem mr145 : mret 145 = some .int := by decide +kernel
theorem mg145 : kGood 145 = true := by decide +kernel

def T146_15 : List Tok := []
def T146_14 : List Tok := (.ireturn, 1, 0, 0) :: T146_15
def T146_13 : List Tok := (.invokevirtual 190, 3, 118, 983) :: T146_14
def T146_12 : List Tok := (.iload_n 2, 1, 0, 0) :: T146_13
def T146_11 : List Tok := (.iload_n 1, 1, 0, 0) :: T146_12
def T146_10 : List Tok := (.getfield 153, 3, 130, 370) :: T146_11
def T146_9 : List Tok := (.getfield 10, 3, 640, 497) :: T146_10
def T146_8 : List Tok := (.aload_n 0, 1, 0, 0) :: T146_9
def T146_7 : List Tok := (.ireturn, 1, 0, 0) :: T146_8
def T146_6 : List Tok := (.iconst (-1), 1, 0, 0) :: T146_7
def T146_5 : List Tok := (.ifCond .ne 5, 3, 0, 0) :: T146_6
def T146_4 : List Tok := (.invokestatic 76, 3, 171, 563) :: T146_5
def T146_3 : List Tok := (.iload_n 2, 1, 0, 0) :: T146_4
def T146_2 : List Tok := (.ifCond .eq 10, 3, 0, 0) :: T146_3
def T146_1 : List Tok := (.invokestatic 170, 3, 173, 880) :: T146_2
def T146_0 : List Tok := (.iload_n 1, 1, 0, 0) :: T146_1
theorem o146_0 (hB : BytesOK) : okL 146 0 T146_0 = true := by
  have h := hB.1 146
  rw [show tk 146 = T146_0 from by decide +kernel] at h
  exact h
theorem o146_1 (hB : BytesOK) : okL 146 1 T146_1 = true := (okL_c (o146_0 hB)).2.2
theorem o146_2 (hB : BytesOK) : okL 146 4 T146_2 = true := (okL_c (o146_1 hB)).2.2
theorem o146_3 (hB : BytesOK) : okL 146 7 T146_3 = true := (okL_c (o146_2 hB)).2.2
theorem o146_4 (hB : BytesOK) : okL 146 8 T146_4 = true := (okL_c (o146_3 hB)).2.2
theorem o146_5 (hB : BytesOK) : okL 146 11 T146_5 = true := (okL_c (o146_4 hB)).2.2
theorem o146_6 (hB : BytesOK) : okL 146 14 T146_6 = true := (okL_c (o146_5 hB)).2.2
theorem o146_7 (hB : BytesOK) : okL 146 15 T146_7 = true := (okL_c (o146_6 hB)).2.2
theorem o146_8 (hB : BytesOK) : okL 146 16 T146_8 = true := (okL_c (o146_7 hB)).2.2
theorem o146_9 (hB : BytesOK) : okL 146 17 T146_9 = true := (okL_c (o146_8 hB)).2.2
theorem o146_10 (hB : BytesOK) : okL 146 20 T146_10 = true := (okL_c (o146_9 hB)).2.2
theorem o146_11 (hB : BytesOK) : okL 146 23 T146_11 = true := (okL_c (o146_10 hB)).2.2
theorem o146_12 (hB : BytesOK) : okL 146 24 T146_12 = true := (okL_c (o146_11 hB)).2.2
theorem o146_13 (hB : BytesOK) : okL 146 25 T146_13 = true := (okL_c (o146_12 hB)).2.2
theorem o146_14 (hB : BytesOK) : okL 146 28 T146_14 = true := (okL_c (o146_13 hB)).2.2
theorem ml146 : mml 146 = 3 := by decide +kernel
theorem mr146 : mret 146 = some .int := by decide +kernel
theorem mg146 : kGood 146 = true := by decide +kernel

def T169_10 : List Tok := []
def T169_9 : List Tok := (.ireturn, 1, 0, 0) :: T169_10
def T169_8 : List Tok := (.iconst 1, 1, 0, 0) :: T169_9
def T169_7 : List Tok := (.putfield 338, 3, 642, 499) :: T169_8
def T169_6 : List Tok := (.iconst 1, 1, 0, 0) :: T169_7
def T169_5 : List Tok := (.aload_n 0, 1, 0, 0) :: T169_6
def T169_4 : List Tok := (.invokevirtual 335, 3, 43, 1311) :: T169_5
def T169_3 : List Tok := (.getfield 10, 3, 640, 497) :: T169_4
def T169_2 : List Tok := (.aload_n 0, 1, 0, 0) :: T169_3
def T169_1 : List Tok := (.getfield 16, 3, 641, 498) :: T169_2
def T169_0 : List Tok := (.aload_n 0, 1, 0, 0) :: T169_1
theorem o169_0 (hB : BytesOK) : okL 169 0 T169_0 = true := by
  have h := hB.1 169
  rw [show tk 169 = T169_0 from by decide +kernel] at h
  exact h
theorem o169_1 (hB : BytesOK) : okL 169 1 T169_1 = true := (okL_c (o169_0 hB)).2.2
theorem o169_2 (hB : BytesOK) : okL 169 4 T169_2 = true := (okL_c (o169_1 hB)).2.2
theorem o169_3 (hB : BytesOK) : okL 169 5 T169_3 = true := (okL_c (o169_2 hB)).2.2
theorem o169_4 (hB : BytesOK) : okL 169 8 T169_4 = true := (okL_c (o169_3 hB)).2.2
theorem o169_5 (hB : BytesOK) : okL 169 11 T169_5 = true := (okL_c (o169_4 hB)).2.2
theorem o169_6 (hB : BytesOK) : okL 169 12 T169_6 = true := (okL_c (o169_5 hB)).2.2
theorem o169_7 (hB : BytesOK) : okL 169 13 T169_7 = true := (okL_c (o169_6 hB)).2.2
theorem o169_8 (hB : BytesOK) : okL 169 16 T169_8 = true := (okL_c (o169_7 hB)).2.2
theorem o169_9 (hB : BytesOK) : okL 169 17 T169_9 = true := (okL_c (o169_8 hB)).2.2
theorem ml169 : mml 169 = 1 := by decide +kernel
theorem mr169 : mret 169 = some .int := by decide +kernel
theorem mg169 : kGood 169 = true := by decide +kernel

def T170_12 : List Tok := []
def T170_11 : List Tok := (.ireturn, 1, 0, 0) :: T170_12
def T170_10 : List Tok := (.iconst 1, 1, 0, 0) :: T170_11
def T170_9 : List Tok := (.invokevirtual 335, 3, 43, 1311) :: T170_10
def T170_8 : List Tok := (.getfield 16, 3, 641, 498) :: T170_9
def T170_7 : List Tok := (.aload_n 0, 1, 0, 0) :: T170_8
def T170_6 : List Tok := (.getfield 10, 3, 640, 497) :: T170_7
def T170_5 : List Tok := (.aload_n 0, 1, 0, 0) :: T170_6
def T170_4 : List Tok := (.ireturn, 1, 0, 0) :: T170_5
def T170_3 : List Tok := (.bipush (-3), 2, 0, 0) :: T170_4
def T170_2 : List Tok := (.ifCond .ne 6, 3, 0, 0) :: T170_3
def T170_1 : List Tok := (.getfield 338, 3, 642, 499) :: T170_2
def T170_0 : List Tok := (.aload_n 0, 1, 0, 0) :: T170_1
theorem o170_0 (hB : BytesOK) : okL 170 0 T170_0 = true := by
  have h := hB.1 170
  rw [show tk 170 = T170_0 from by decide +kernel] at h
  exact h
theorem o170_1 (hB : BytesOK) : okL 170 1 T170_1 = true := (okL_c (o170_0 hB)).2.2
theorem o170_2 (hB : BytesOK) : okL 170 4 T170_2 = true := (okL_c (o170_1 hB)).2.2
theorem o170_3 (hB : BytesOK) : okL 170 7 T170_3 = true := (okL_c (o170_2 hB)).2.2
theorem o170_4 (hB : BytesOK) : okL 170 9 T170_4 = true := (okL_c (o170_3 hB)).2.2
theorem o170_5 (hB : BytesOK) : okL 170 10 T170_5 = true := (okL_c (o170_4 hB)).2.2
theorem o170_6 (hB : BytesOK) : okL 170 11 T170_6 = true := (okL_c (o170_5 hB)).2.2
theorem o170_7 (hB : BytesOK) : okL 170 14 T170_7 = true := (okL_c (o170_6 hB)).2.2
theorem o170_8 (hB : BytesOK) : okL 170 15 T170_8 = true := (okL_c (o170_7 hB)).2.2
theorem o170_9 (hB : BytesOK) : okL 170 18 T170_9 = true := (okL_c (o170_8 hB)).2.2
theorem o170_10 (hB : BytesOK) : okL 170 21 T170_10 = true := (okL_c (o170_9 hB)).2.2
theorem o170_11 (hB : BytesOK) : okL 170 22 T170_11 = true := (okL_c (o170_10 hB)).2.2
theorem ml170 : mml 170 = 1 := by decide +kernel
theorem mr170 : mret 170 = some .int := by decide +kernel
theorem mg170 : kGood 170 = true := by decide +kernel

def T171_9 : List Tok := []
def T171_8 : List Tok := (.ireturn, 1, 0, 0) :: T171_9
def T171_7 : List Tok := (.iconst 0, 1, 0, 0) :: T171_8
def T171_6 : List Tok := (.goto 4, 3, 0, 0) :: T171_7
def T171_5 : List Tok := (.iconst 1, 1, 0, 0) :: T171_6
def T171_4 : List Tok := (.if_icmp .ge 7, 3, 0, 0) :: T171_5
def T171_3 : List Tok := (.sipush 240, 3, 0, 0) :: T171_4
def T171_2 : List Tok := (.iload_n 0, 1, 0, 0) :: T171_3
def T171_1 : List Tok := (.ifCond .lt 14, 3, 0, 0) :: T171_2
def T171_0 : List Tok := (.iload_n 0, 1, 0, 0) :: T171_1
theorem o171_0 (hB : BytesOK) : okL 171 0 T171_0 = true := by
  have h := hB.1 171
  rw [show tk 171 = T171_0 from by decide +kernel] at h
  exact h
theorem o171_1 (hB : BytesOK) : okL 171 1 T171_1 = true := (okL_c (o171_0 hB)).2.2
theorem o171_2 (hB : BytesOK) : okL 171 4 T171_2 = true := (okL_c (o171_1 hB)).2.2
theorem o171_3 (hB : BytesOK) : okL 171 5 T171_3 = true := (okL_c (o171_2 hB)).2.2
theorem o171_4 (hB : BytesOK) : okL 171 8 T171_4 = true := (okL_c (o171_3 hB)).2.2
theorem o171_5 (hB : BytesOK) : okL 171 11 T171_5 = true := (okL_c (o171_4 hB)).2.2
theorem o171_6 (hB : BytesOK) : okL 171 12 T171_6 = true := (okL_c (o171_5 hB)).2.2
theorem o171_7 (hB : BytesOK) : okL 171 15 T171_7 = true := (okL_c (o171_6 hB)).2.2
theorem o171_8 (hB : BytesOK) : okL 171 16 T171_8 = true := (okL_c (o171_7 hB)).2.2
theorem ml171 : mml 171 = 1 := by decide +kernel
theorem mr171 : mret 171 = some .boolean := by decide +kernel
theorem mg171 : kGood 171 = true := by decide +kernel

def T173_9 : List Tok := []
def T173_8 : List Tok := (.ireturn, 1, 0, 0) :: T173_9
def T173_7 : List Tok := (.iconst 0, 1, 0, 0) :: T173_8
def T173_6 : List Tok := (.goto 4, 3, 0, 0) :: T173_7
def T173_5 : List Tok := (.iconst 1, 1, 0, 0) :: T173_6
def T173_4 : List Tok := (.if_icmp .ge 7, 3, 0, 0) :: T173_5
def T173_3 : List Tok := (.bipush 6, 2, 0, 0) :: T173_4
def T173_2 : List Tok := (.iload_n 0, 1, 0, 0) :: T173_3
def T173_1 : List Tok := (.ifCond .lt 13, 3, 0, 0) :: T173_2
def T173_0 : List Tok := (.iload_n 0, 1, 0, 0) :: T173_1
theorem o173_0 (hB : BytesOK) : okL 173 0 T173_0 = true := by
  have h := hB.1 173
  rw [show tk 173 = T173_0 from by decide +kernel] at h
  exact h
theorem o173_1 (hB : BytesOK) : okL 173 1 T173_1 = true := (okL_c (o173_0 hB)).2.2
theorem o173_2 (hB : BytesOK) : okL 173 4 T173_2 = true := (okL_c (o173_1 hB)).2.2
theorem o173_3 (hB : BytesOK) : okL 173 5 T173_3 = true := (okL_c (o173_2 hB)).2.2
theorem o173_4 (hB : BytesOK) : okL 173 7 T173_4 = true := (okL_c (o173_3 hB)).2.2
theorem o173_5 (hB : BytesOK) : okL 173 10 T173_5 = true := (okL_c (o173_4 hB)).2.2
theorem o173_6 (hB : BytesOK) : okL 173 11 T173_6 = true := (okL_c (o173_5 hB)).2.2
theorem o173_7 (hB : BytesOK) : okL 173 14 T173_7 = true := (okL_c (o173_6 hB)).2.2
theorem o173_8 (hB : BytesOK) : okL 173 15 T173_8 = true := (okL_c (o173_7 hB)).2.2
theorem ml173 : mml 173 = 1 := by decide +kernel
theorem mr173 : mret 173 = some .boolean := by decide +kernel
theorem mg173 : kGood 173 = true := by decide +kernel

def T177_23 : List Tok := []
def T177_22 : List Tok := (.ireturn, 1, 0, 0) :: T177_23
def T177_21 : List Tok := (.iconst 0, 1, 0, 0) :: T177_22
def T177_20 : List Tok := (.goto 4, 3, 0, 0) :: T177_21
def T177_19 : List Tok := (.iconst 1, 1, 0, 0) :: T177_20
def T177_18 : List Tok := (.if_icmp .ge 7, 3, 0, 0) :: T177_19
def T177_17 : List Tok := (.sipush 240, 3, 0, 0) :: T177_18
def T177_16 : List Tok := (.irem, 1, 0, 0) :: T177_17
def T177_15 : List Tok := (.sipush 1000, 3, 0, 0) :: T177_16
def T177_14 : List Tok := (.iload_n 0, 1, 0, 0) :: T177_15
def T177_13 : List Tok := (.if_icmp .ge 18, 3, 0, 0) :: T177_14
def T177_12 : List Tok := (.iconst 4, 1, 0, 0) :: T177_13
def T177_11 : List Tok := (.irem, 1, 0, 0) :: T177_12
def T177_10 : List Tok := (.bipush 10, 2, 0, 0) :: T177_11
def T177_9 : List Tok := (.idiv, 1, 0, 0) :: T177_10
def T177_8 : List Tok := (.sipush 1000, 3, 0, 0) :: T177_9
def T177_7 : List Tok := (.iload_n 0, 1, 0, 0) :: T177_8
def T177_6 : List Tok := (.if_icmp .ge 30, 3, 0, 0) :: T177_7
def T177_5 : List Tok := (.bipush 6, 2, 0, 0) :: T177_6
def T177_4 : List Tok := (.idiv, 1, 0, 0) :: T177_5
def T177_3 : List Tok := (.sipush 10000, 3, 0, 0) :: T177_4
def T177_2 : List Tok := (.iload_n 0, 1, 0, 0) :: T177_3
def T177_1 : List Tok := (.ifCond .lt 40, 3, 0, 0) :: T177_2
def T177_0 : List Tok := (.iload_n 0, 1, 0, 0) :: T177_1
theorem o177_0 (hB : BytesOK) : okL 177 0 T177_0 = true := by
  have h := hB.1 177
  rw [show tk 177 = T177_0 from by decide +kernel] at h
  exact h
theorem o177_1 (hB : BytesOK) : okL 177 1 T177_1 = true := (okL_c (o177_0 hB)).2.2
theorem o177_2 (hB : BytesOK) : okL 177 4 T177_2 = true := (okL_c (o177_1 hB)).2.2
theorem o177_3 (hB : BytesOK) : okL 177 5 T177_3 = true := (okL_c (o177_2 hB)).2.2
theorem o177_4 (hB : BytesOK) : okL 177 8 T177_4 = true := (okL_c (o177_3 hB)).2.2
theorem o177_5 (hB : BytesOK) : okL 177 9 T177_5 = true := (okL_c (o177_4 hB)).2.2
theorem o177_6 (hB : BytesOK) : okL 177 11 T177_6 = true := (okL_c (o177_5 hB)).2.2
theorem o177_7 (hB : BytesOK) : okL 177 14 T177_7 = true := (okL_c (o177_6 hB)).2.2
theorem o177_8 (hB : BytesOK) : okL 177 15 T177_8 = true := (okL_c (o177_7 hB)).2.2
theorem o177_9 (hB : BytesOK) : okL 177 18 T177_9 = true := (okL_c (o177_8 hB)).2.2
theorem o177_10 (hB : BytesOK) : okL 177 19 T177_10 = true := (okL_c (o177_9 hB)).2.2
theorem o177_11 (hB : BytesOK) : okL 177 21 T177_11 = true := (okL_c (o177_10 hB)).2.2
theorem o177_12 (hB : BytesOK) : okL 177 22 T177_12 = true := (okL_c (o177_11 hB)).2.2
theorem o177_13 (hB : BytesOK) : okL 177 23 T177_13 = true := (okL_c (o177_12 hB)).2.2
theorem o177_14 (hB : BytesOK) : okL 177 26 T177_14 = true := (okL_c (o177_13 hB)).2.2
theorem o177_15 (hB : BytesOK) : okL 177 27 T177_15 = true := (okL_c (o177_14 hB)).2.2
theorem o177_16 (hB : BytesOK) : okL 177 30 T177_16 = true := (okL_c (o177_15 hB)).2.2
theorem o177_17 (hB : BytesOK) : okL 177 31 T177_17 = true := (okL_c (o177_16 hB)).2.2
theorem o177_18 (hB : BytesOK) : okL 177 34 T177_18 = true := (okL_c (o177_17 hB)).2.2
theorem o177_19 (hB : BytesOK) : okL 177 37 T177_19 = true := (okL_c (o177_18 hB)).2.2
theorem o177_20 (hB : BytesOK) : okL 177 38 T177_20 = true := (okL_c (o177_19 hB)).2.2
theorem o177_21 (hB : BytesOK) : okL 177 41 T177_21 = true := (okL_c (o177_20 hB)).2.2
theorem o177_22 (hB : BytesOK) : okL 177 42 T177_22 = true := (okL_c (o177_21 hB)).2.2
theorem ml177 : mml 177 = 1 := by decide +kernel
theorem mr177 : mret 177 = some .boolean := by decide +kernel
theorem mg177 : kGood 177 = true := by decide +kernel

def T178_11 : List Tok := []
def T178_10 : List Tok := (.return_, 1, 0, 0) :: T178_11
def T178_9 : List Tok := (.invokestatic 347, 3, 1001, 828) :: T178_10
def T178_8 : List Tok := (.invokestatic 342, 3, 300, 825) :: T178_9
def T178_7 : List Tok := (.arraylength, 1, 0, 0) :: T178_8
def T178_6 : List Tok := (.aload_n 1, 1, 0, 0) :: T178_7
def T178_5 : List Tok := (.arraylength, 1, 0, 0) :: T178_6
def T178_4 : List Tok := (.aload_n 0, 1, 0, 0) :: T178_5
def T178_3 : List Tok := (.iconst 0, 1, 0, 0) :: T178_4
def T178_2 : List Tok := (.aload_n 1, 1, 0, 0) :: T178_3
def T178_1 : List Tok := (.iconst 0, 1, 0, 0) :: T178_2
def T178_0 : List Tok := (.aload_n 0, 1, 0, 0) :: T178_1
theorem o178_0 (hB : BytesOK) : okL 178 0 T178_0 = true := by
  have h := hB.1 178
  rw [show tk 178 = T178_0 from by decide +kernel] at h
  exact h
theorem o178_1 (hB : BytesOK) : okL 178 1 T178_1 = true := (okL_c (o178_0 hB)).2.2
theorem o178_2 (hB : BytesOK) : okL 178 2 T178_2 = true := (okL_c (o178_1 hB)).2.2
theorem o178_3 (hB : BytesOK) : okL 178 3 T178_3 = true := (okL_c (o178_2 hB)).2.2
theorem o178_4 (hB : BytesOK) : okL 178 4 T178_4 = true := (okL_c (o178_3 hB)).2.2
theorem o178_5 (hB : BytesOK) : okL 178 5 T178_5 = true := (okL_c (o178_4 hB)).2.2
theorem o178_6 (hB : BytesOK) : okL 178 6 T178_6 = true := (okL_c (o178_5 hB)).2.2
theorem o178_7 (hB : BytesOK) : okL 178 7 T178_7 = true := (okL_c (o178_6 hB)).2.2
theorem o178_8 (hB : BytesOK) : okL 178 8 T178_8 = true := (okL_c (o178_7 hB)).2.2
theorem o178_9 (hB : BytesOK) : okL 178 11 T178_9 = true := (okL_c (o178_8 hB)).2.2
theorem o178_10 (hB : BytesOK) : okL 178 14 T178_10 = true := (okL_c (o178_9 hB)).2.2
theorem ml178 : mml 178 = 2 := by decide +kernel
theorem mr178 : mret 178 = none := by decide +kernel
theorem mg178 : kGood 178 = true := by decide +kernel

def T184_10 : List Tok := []
def T184_9 : List Tok := (.ireturn, 1, 0, 0) :: T184_10
def T184_8 : List Tok := (.iconst 0, 1, 0, 0) :: T184_9
def T184_7 : List Tok := (.goto 4, 3, 0, 0) :: T184_8
def T184_6 : List Tok := (.iconst 1, 1, 0, 0) :: T184_7
def T184_5 : List Tok := (.if_icmp .gt 7, 3, 0, 0) :: T184_6
def T184_4 : List Tok := (.iload_n 2, 1, 0, 0) :: T184_5
def T184_3 : List Tok := (.iload_n 0, 1, 0, 0) :: T184_4
def T184_2 : List Tok := (.if_icmp .lt 12, 3, 0, 0) :: T184_3
def T184_1 : List Tok := (.iload_n 1, 1, 0, 0) :: T184_2
def T184_0 : List Tok := (.iload_n 0, 1, 0, 0) :: T184_1
theorem o184_0 (hB : BytesOK) : okL 184 0 T184_0 = true := by
  have h := hB.1 184
  rw [show tk 184 = T184_0 from by decide +kernel] at h
  exact h
theorem o184_1 (hB : BytesOK) : okL 184 1 T184_1 = true := (okL_c (o184_0 hB)).2.2
theorem o184_2 (hB : BytesOK) : okL 184 2 T184_2 = true := (okL_c (o184_1 hB)).2.2
theorem o184_3 (hB : BytesOK) : okL 184 5 T184_3 = true := (okL_c (o184_2 hB)).2.2
theorem o184_4 (hB : BytesOK) : okL 184 6 T184_4 = true := (okL_c (o184_3 hB)).2.2
theorem o184_5 (hB : BytesOK) : okL 184 7 T184_5 = true := (okL_c (o184_4 hB)).2.2
theorem o184_6 (hB : BytesOK) : okL 184 10 T184_6 = true := (okL_c (o184_5 hB)).2.2
theorem o184_7 (hB : BytesOK) : okL 184 11 T184_7 = true := (okL_c (o184_6 hB)).2.2
theorem o184_8 (hB : BytesOK) : okL 184 14 T184_8 = true := (okL_c (o184_7 hB)).2.2
theorem o184_9 (hB : BytesOK) : okL 184 15 T184_9 = true := (okL_c (o184_8 hB)).2.2
theorem ml184 : mml 184 = 3 := by decide +kernel
theorem mr184 : mret 184 = some .boolean := by decide +kernel
theorem mg184 : kGood 184 = true := by decide +kernel

def T185_5 : List Tok := []
def T185_4 : List Tok := (.ireturn, 1, 0, 0) :: T185_5
def T185_3 : List Tok := (.invokestatic 64, 3, 184, 1491) :: T185_4
def T185_2 : List Tok := (.sipush 239, 3, 0, 0) :: T185_3
def T185_1 : List Tok := (.iconst 0, 1, 0, 0) :: T185_2
def T185_0 : List Tok := (.iload_n 0, 1, 0, 0) :: T185_1
theorem o185_0 (hB : BytesOK) : okL 185 0 T185_0 = true := by
  have h := hB.1 185
  rw [show tk 185 = T185_0 from by decide +kernel] at h
  exact h
theorem o185_1 (hB : BytesOK) : okL 185 1 T185_1 = true := (okL_c (o185_0 hB)).2.2
theorem o185_2 (hB : BytesOK) : okL 185 2 T185_2 = true := (okL_c (o185_1 hB)).2.2
theorem o185_3 (hB : BytesOK) : okL 185 5 T185_3 = true := (okL_c (o185_2 hB)).2.2
theorem o185_4 (hB : BytesOK) : okL 185 8 T185_4 = true := (okL_c (o185_3 hB)).2.2
theorem ml185 : mml 185 = 1 := by decide +kernel
theorem mr185 : mret 185 = some .boolean := by decide +kernel
theorem mg185 : kGood 185 = true := by decide +kernel

def T187_5 : List Tok := []
def T187_4 : List Tok := (.ireturn, 1, 0, 0) :: T187_5
def T187_3 : List Tok := (.invokestatic 64, 3, 184, 1491) :: T187_4
def T187_2 : List Tok := (.iconst 5, 1, 0, 0) :: T187_3
def T187_1 : List Tok := (.iconst 0, 1, 0, 0) :: T187_2
def T187_0 : List Tok := (.iload_n 0, 1, 0, 0) :: T187_1
theorem o187_0 (hB : BytesOK) : okL 187 0 T187_0 = true := by
  have h := hB.1 187
  rw [show tk 187 = T187_0 from by decide +kernel] at h
  exact h
theorem o187_1 (hB : BytesOK) : okL 187 1 T187_1 = true := (okL_c (o187_0 hB)).2.2
theorem o187_2 (hB : BytesOK) : okL 187 2 T187_2 = true := (okL_c (o187_1 hB)).2.2
theorem o187_3 (hB : BytesOK) : okL 187 3 T187_3 = true := (okL_c (o187_2 hB)).2.2
theorem o187_4 (hB : BytesOK) : okL 187 6 T187_4 = true := (okL_c (o187_3 hB)).2.2
theorem ml187 : mml 187 = 1 := by decide +kernel
theorem mr187 : mret 187 = some .boolean := by decide +kernel
theorem mg187 : kGood 187 = true := by decide +kernel

def T189_30 : List Tok := []
def T189_29 : List Tok := (.ireturn, 1, 0, 0) :: T189_30
def T189_28 : List Tok := (.iaload, 1, 0, 0) :: T189_29
def T189_27 : List Tok := (.iconst 0, 1, 0, 0) :: T189_28
def T189_26 : List Tok := (.getfield 7, 3, 704, 1345) :: T189_27
def T189_25 : List Tok := (.aload_n 0, 1, 0, 0) :: T189_26
def T189_24 : List Tok := (.iastore, 1, 0, 0) :: T189_25
def T189_23 : List Tok := (.iadd, 1, 0, 0) :: T189_24
def T189_22 : List Tok := (.iload_n 1, 1, 0, 0) :: T189_23
def T189_21 : List Tok := (.iaload, 1, 0, 0) :: T189_22
def T189_20 : List Tok := (.dup2, 1, 0, 0) :: T189_21
def T189_19 : List Tok := (.iconst 0, 1, 0, 0) :: T189_20
def T189_18 : List Tok := (.getfield 7, 3, 704, 1345) :: T189_19
def T189_17 : List Tok := (.aload_n 0, 1, 0, 0) :: T189_18
def T189_16 : List Tok := (.ireturn, 1, 0, 0) :: T189_17
def T189_15 : List Tok := (.bipush (-4), 2, 0, 0) :: T189_16
def T189_14 : List Tok := (.if_icmp .le 6, 3, 0, 0) :: T189_15
def T189_13 : List Tok := (.sipush 239, 3, 0, 0) :: T189_14
def T189_12 : List Tok := (.iadd, 1, 0, 0) :: T189_13
def T189_11 : List Tok := (.iload_n 1, 1, 0, 0) :: T189_12
def T189_10 : List Tok := (.iaload, 1, 0, 0) :: T189_11
def T189_9 : List Tok := (.iconst 0, 1, 0, 0) :: T189_10
def T189_8 : List Tok := (.getfield 7, 3, 704, 1345) :: T189_9
def T189_7 : List Tok := (.aload_n 0, 1, 0, 0) :: T189_8
def T189_6 : List Tok := (.ireturn, 1, 0, 0) :: T189_7
def T189_5 : List Tok := (.iconst (-1), 1, 0, 0) :: T189_6
def T189_4 : List Tok := (.ifCond .ne 5, 3, 0, 0) :: T189_5
def T189_3 : List Tok := (.invokestatic 64, 3, 184, 1491) :: T189_4
def T189_2 : List Tok := (.bipush 60, 2, 0, 0) :: T189_3
def T189_1 : List Tok := (.iconst 1, 1, 0, 0) :: T189_2
def T189_0 : List Tok := (.iload_n 1, 1, 0, 0) :: T189_1
theorem o189_0 (hB : BytesOK) : okL 189 0 T189_0 = true := by
  have h := hB.1 189
  rw [show tk 189 = T189_0 from by decide +kernel] at h
  exact h
theorem o189_1 (hB : BytesOK) : okL 189 1 T189_1 = true := (okL_c (o189_0 hB)).2.2
theorem o189_2 (hB : BytesOK) : okL 189 2 T189_2 = true := (okL_c (o189_1 hB)).2.2
theorem o189_3 (hB : BytesOK) : okL 189 4 T189_3 = true := (okL_c (o189_2 hB)).2.2
theorem o189_4 (hB : BytesOK) : okL 189 7 T189_4 = true := (okL_c (o189_3 hB)).2.2
theorem o189_5 (hB : BytesOK) : okL 189 10 T189_5 = true := (okL_c (o189_4 hB)).2.2
theorem o189_6 (hB : BytesOK) : okL 189 11 T189_6 = true := (okL_c (o189_5 hB)).2.2
theorem o189_7 (hB : BytesOK) : okL 189 12 T189_7 = true := (okL_c (o189_6 hB)).2.2
theorem o189_8 (hB : BytesOK) : okL 189 13 T189_8 = true := (okL_c (o189_7 hB)).2.2
theorem o189_9 (hB : BytesOK) : okL 189 16 T189_9 = true := (okL_c (o189_8 hB)).2.2
theorem o189_10 (hB : BytesOK) : okL 189 17 T189_10 = true := (okL_c (o189_9 hB)).2.2
theorem o189_11 (hB : BytesOK) : okL 189 18 T189_11 = true := (okL_c (o189_10 hB)).2.2
theorem o189_12 (hB : BytesOK) : okL 189 19 T189_12 = true := (okL_c (o189_11 hB)).2.2
theorem o189_13 (hB : BytesOK) : okL 189 20 T189_13 = true := (okL_c (o189_12 hB)).2.2
theorem o189_14 (hB : BytesOK) : okL 189 23 T189_14 = true := (okL_c (o189_13 hB)).2.2
theorem o189_15 (hB : BytesOK) : okL 189 26 T189_15 = true := (okL_c (o189_14 hB)).2.2
theorem o189_16 (hB : BytesOK) : okL 189 28 T189_16 = true := (okL_c (o189_15 hB)).2.2
theorem o189_17 (hB : BytesOK) : okL 189 29 T189_17 = true := (okL_c (o189_16 hB)).2.2
theorem o189_18 (hB : BytesOK) : okL 189 30 T189_18 = true := (okL_c (o189_17 hB)).2.2
theorem o189_19 (hB : BytesOK) : okL 189 33 T189_19 = true := (okL_c (o189_18 hB)).2.2
theorem o189_20 (hB : BytesOK) : okL 189 34 T189_20 = true := (okL_c (o189_19 hB)).2.2
theorem o189_21 (hB : BytesOK) : okL 189 35 T189_21 = true := (okL_c (o189_20 hB)).2.2
theorem o189_22 (hB : BytesOK) : okL 189 36 T189_22 = true := (okL_c (o189_21 hB)).2.2
theorem o189_23 (hB : BytesOK) : okL 189 37 T189_23 = true := (okL_c (o189_22 hB)).2.2
theorem o189_24 (hB : BytesOK) : okL 189 38 T189_24 = true := (okL_c (o189_23 hB)).2.2
theorem o189_25 (hB : BytesOK) : okL 189 39 T189_25 = true := (okL_c (o189_24 hB)).2.2
theorem o189_26 (hB : BytesOK) : okL 189 40 T189_26 = true := (okL_c (o189_25 hB)).2.2
theorem o189_27 (hB : BytesOK) : okL 189 43 T189_27 = true := (okL_c (o189_26 hB)).2.2
theorem o189_28 (hB : BytesOK) : okL 189 44 T189_28 = true := (okL_c (o189_27 hB)).2.2
theorem o189_29 (hB : BytesOK) : okL 189 45 T189_29 = true := (okL_c (o189_28 hB)).2.2
theorem ml189 : mml 189 = 2 := by decide +kernel
theorem mr189 : mret 189 = some .int := by decide +kernel
theorem mg189 : kGood 189 = true := by decide +kernel

def T229_21 : List Tok := []
def T229_20 : List Tok := (.ireturn, 1, 0, 0) :: T229_21
def T229_19 : List Tok := (.iconst 0, 1, 0, 0) :: T229_20
def T229_18 : List Tok := (.goto 4, 3, 0, 0) :: T229_19
def T229_17 : List Tok := (.iconst 1, 1, 0, 0) :: T229_18
def T229_16 : List Tok := (.ifCond .eq 7, 3, 0, 0) :: T229_17
def T229_15 : List Tok := (.invokestatic 72, 3, 185, 1501) :: T229_16
def T229_14 : List Tok := (.irem, 1, 0, 0) :: T229_15
def T229_13 : List Tok := (.sipush 1000, 3, 0, 0) :: T229_14
def T229_12 : List Tok := (.iload_n 0, 1, 0, 0) :: T229_13
def T229_11 : List Tok := (.if_icmp .ge 18, 3, 0, 0) :: T229_12
def T229_10 : List Tok := (.iconst 4, 1, 0, 0) :: T229_11
def T229_9 : List Tok := (.irem, 1, 0, 0) :: T229_10
def T229_8 : List Tok := (.bipush 10, 2, 0, 0) :: T229_9
def T229_7 : List Tok := (.idiv, 1, 0, 0) :: T229_8
def T229_6 : List Tok := (.sipush 1000, 3, 0, 0) :: T229_7
def T229_5 : List Tok := (.iload_n 0, 1, 0, 0) :: T229_6
def T229_4 : List Tok := (.ifCond .eq 30, 3, 0, 0) :: T229_5
def T229_3 : List Tok := (.invokestatic 64, 3, 184, 1491) :: T229_4
def T229_2 : List Tok := (.ldc 221, 2, 14, 1663) :: T229_3
def T229_1 : List Tok := (.iconst 0, 1, 0, 0) :: T229_2
def T229_0 : List Tok := (.iload_n 0, 1, 0, 0) :: T229_1
theorem o229_0 (hB : BytesOK) : okL 229 0 T229_0 = true := by
  have h := hB.1 229
  rw [show tk 229 = T229_0 from by decide +kernel] at h
  exact h
theorem o229_1 (hB : BytesOK) : okL 229 1 T229_1 = true := (okL_c (o229_0 hB)).2.2
theorem o229_2 (hB : BytesOK) : okL 229 2 T229_2 = true := (okL_c (o229_1 hB)).2.2
theorem o229_3 (hB : BytesOK) : okL 229 4 T229_3 = true := (okL_c (o229_2 hB)).2.2
theorem o229_4 (hB : BytesOK) : okL 229 7 T229_4 = true := (okL_c (o229_3 hB)).2.2
theorem o229_5 (hB : BytesOK) : okL 229 10 T229_5 = true := (okL_c (o229_4 hB)).2.2
theorem o229_6 (hB : BytesOK) : okL 229 11 T229_6 = true := (okL_c (o229_5 hB)).2.2
theorem o229_7 (hB : BytesOK) : okL 229 14 T229_7 = true := (okL_c (o229_6 hB)).2.2
theorem o229_8 (hB : BytesOK) : okL 229 15 T229_8 = true := (okL_c (o229_7 hB)).2.2
theorem o229_9 (hB : BytesOK) : okL 229 17 T229_9 = true := (okL_c (o229_8 hB)).2.2
theorem o229_10 (hB : BytesOK) : okL 229 18 T229_10 = true := (okL_c (o229_9 hB)).2.2
theorem o229_11 (hB : BytesOK) : okL 229 19 T229_11 = true := (okL_c (o229_10 hB)).2.2
theorem o229_12 (hB : BytesOK) : okL 229 22 T229_12 = true := (okL_c (o229_11 hB)).2.2
theorem o229_13 (hB : BytesOK) : okL 229 23 T229_13 = true := (okL_c (o229_12 hB)).2.2
theorem o229_14 (hB : BytesOK) : okL 229 26 T229_14 = true := (okL_c (o229_13 hB)).2.2
theorem o229_15 (hB : BytesOK) : okL 229 27 T229_15 = true := (okL_c (o229_14 hB)).2.2
theorem o229_16 (hB : BytesOK) : okL 229 30 T229_16 = true := (okL_c (o229_15 hB)).2.2
theorem o229_17 (hB : BytesOK) : okL 229 33 T229_17 = true := (okL_c (o229_16 hB)).2.2
theorem o229_18 (hB : BytesOK) : okL 229 34 T229_18 = true := (okL_c (o229_17 hB)).2.2
theorem o229_19 (hB : BytesOK) : okL 229 37 T229_19 = true := (okL_c (o229_18 hB)).2.2
theorem o229_20 (hB : BytesOK) : okL 229 38 T229_20 = true := (okL_c (o229_19 hB)).2.2
theorem ml229 : mml 229 = 1 := by decide +kernel
theorem mr229 : mret 229 = some .boolean := by decide +kernel
theorem mg229 : kGood 229 = true := by decide +kernel

def T230_94 : List Tok := []
def T230_93 : List Tok := (.ireturn, 1, 0, 0) :: T230_94
def T230_92 : List Tok := (.isub, 1, 0, 0) :: T230_93
def T230_91 : List Tok := (.iconst 1, 1, 0, 0) :: T230_92
def T230_90 : List Tok := (.iaload, 1, 0, 0) :: T230_91
def T230_89 : List Tok := (.iconst 5, 1, 0, 0) :: T230_90
def T230_88 : List Tok := (.getfield 7, 3, 704, 1345) :: T230_89
def T230_87 : List Tok := (.aload_n 0, 1, 0, 0) :: T230_88
def T230_86 : List Tok := (.iastore, 1, 0, 0) :: T230_87
def T230_85 : List Tok := (.iadd, 1, 0, 0) :: T230_86
def T230_84 : List Tok := (.iconst 1, 1, 0, 0) :: T230_85
def T230_83 : List Tok := (.iaload, 1, 0, 0) :: T230_84
def T230_82 : List Tok := (.dup2, 1, 0, 0) :: T230_83
def T230_81 : List Tok := (.iconst 5, 1, 0, 0) :: T230_82
def T230_80 : List Tok := (.getfield 7, 3, 704, 1345) :: T230_81
def T230_79 : List Tok := (.aload_n 0, 1, 0, 0) :: T230_80
def T230_78 : List Tok := (.iastore, 1, 0, 0) :: T230_79
def T230_77 : List Tok := (.iaload, 1, 0, 0) :: T230_78
def T230_76 : List Tok := (.iconst 0, 1, 0, 0) :: T230_77
def T230_75 : List Tok := (.getfield 7, 3, 704, 1345) :: T230_76
def T230_74 : List Tok := (.aload_n 0, 1, 0, 0) :: T230_75
def T230_73 : List Tok := (.iadd, 1, 0, 0) :: T230_74
def T230_72 : List Tok := (.iconst 4, 1, 0, 0) :: T230_73
def T230_71 : List Tok := (.iload_n 3, 1, 0, 0) :: T230_72
def T230_70 : List Tok := (.getfield 7, 3, 704, 1345) :: T230_71
def T230_69 : List Tok := (.aload_n 0, 1, 0, 0) :: T230_70
def T230_68 : List Tok := (.iastore, 1, 0, 0) :: T230_69
def T230_67 : List Tok := (.iload_n 2, 1, 0, 0) :: T230_68
def T230_66 : List Tok := (.iadd, 1, 0, 0) :: T230_67
def T230_65 : List Tok := (.iconst 3, 1, 0, 0) :: T230_66
def T230_64 : List Tok := (.iload_n 3, 1, 0, 0) :: T230_65
def T230_63 : List Tok := (.getfield 7, 3, 704, 1345) :: T230_64
def T230_62 : List Tok := (.aload_n 0, 1, 0, 0) :: T230_63
def T230_61 : List Tok := (.iastore, 1, 0, 0) :: T230_62
def T230_60 : List Tok := (.irem, 1, 0, 0) :: T230_61
def T230_59 : List Tok := (.sipush 1000, 3, 0, 0) :: T230_60
def T230_58 : List Tok := (.iload_n 1, 1, 0, 0) :: T230_59
def T230_57 : List Tok := (.iadd, 1, 0, 0) :: T230_58
def T230_56 : List Tok := (.iconst 2, 1, 0, 0) :: T230_57
def T230_55 : List Tok := (.iload_n 3, 1, 0, 0) :: T230_56
def T230_54 : List Tok := (.getfield 7, 3, 704, 1345) :: T230_55
def T230_53 : List Tok := (.aload_n 0, 1, 0, 0) :: T230_54
def T230_52 : List Tok := (.iastore, 1, 0, 0) :: T230_53
def T230_51 : List Tok := (.irem, 1, 0, 0) :: T230_52
def T230_50 : List Tok := (.bipush 10, 2, 0, 0) :: T230_51
def T230_49 : List Tok := (.idiv, 1, 0, 0) :: T230_50
def T230_48 : List Tok := (.sipush 1000, 3, 0, 0) :: T230_49
def T230_47 : List Tok := (.iload_n 1, 1, 0, 0) :: T230_48
def T230_46 : List Tok := (.iadd, 1, 0, 0) :: T230_47
def T230_45 : List Tok := (.iconst 1, 1, 0, 0) :: T230_46
def T230_44 : List Tok := (.iload_n 3, 1, 0, 0) :: T230_45
def T230_43 : List Tok := (.getfield 7, 3, 704, 1345) :: T230_44
def T230_42 : List Tok := (.aload_n 0, 1, 0, 0) :: T230_43
def T230_41 : List Tok := (.iastore, 1, 0, 0) :: T230_42
def T230_40 : List Tok := (.idiv, 1, 0, 0) :: T230_41
def T230_39 : List Tok := (.sipush 10000, 3, 0, 0) :: T230_40
def T230_38 : List Tok := (.iload_n 1, 1, 0, 0) :: T230_39
def T230_37 : List Tok := (.iload_n 3, 1, 0, 0) :: T230_38
def T230_36 : List Tok := (.getfield 7, 3, 704, 1345) :: T230_37
def T230_35 : List Tok := (.aload_n 0, 1, 0, 0) :: T230_36
def T230_34 : List Tok := (.istore_n 3, 1, 0, 0) :: T230_35
def T230_33 : List Tok := (.iadd, 1, 0, 0) :: T230_34
def T230_32 : List Tok := (.imul, 1, 0, 0) :: T230_33
def T230_31 : List Tok := (.iaload, 1, 0, 0) :: T230_32
def T230_30 : List Tok := (.iconst 5, 1, 0, 0) :: T230_31
def T230_29 : List Tok := (.getfield 7, 3, 704, 1345) :: T230_30
def T230_28 : List Tok := (.aload_n 0, 1, 0, 0) :: T230_29
def T230_27 : List Tok := (.iconst 5, 1, 0, 0) :: T230_28
def T230_26 : List Tok := (.sipush 306, 3, 0, 0) :: T230_27
def T230_25 : List Tok := (.ireturn, 1, 0, 0) :: T230_26
def T230_24 : List Tok := (.bipush (-2), 2, 0, 0) :: T230_25
def T230_23 : List Tok := (.if_icmp .ne 6, 3, 0, 0) :: T230_24
def T230_22 : List Tok := (.bipush 24, 2, 0, 0) :: T230_23
def T230_21 : List Tok := (.iaload, 1, 0, 0) :: T230_22
def T230_20 : List Tok := (.iconst 5, 1, 0, 0) :: T230_21
def T230_19 : List Tok := (.getfield 7, 3, 704, 1345) :: T230_20
def T230_18 : List Tok := (.aload_n 0, 1, 0, 0) :: T230_19
def T230_17 : List Tok := (.ireturn, 1, 0, 0) :: T230_18
def T230_16 : List Tok := (.iconst (-1), 1, 0, 0) :: T230_17
def T230_15 : List Tok := (.ifCond .ne 5, 3, 0, 0) :: T230_16
def T230_14 : List Tok := (.invokestatic 64, 3, 184, 1491) :: T230_15
def T230_13 : List Tok := (.sipush 999, 3, 0, 0) :: T230_14
def T230_12 : List Tok := (.iconst 1, 1, 0, 0) :: T230_13
def T230_11 : List Tok := (.iload_n 2, 1, 0, 0) :: T230_12
def T230_10 : List Tok := (.if_icmp .gt 14, 3, 0, 0) :: T230_11
def T230_9 : List Tok := (.iaload, 1, 0, 0) :: T230_10
def T230_8 : List Tok := (.iconst 0, 1, 0, 0) :: T230_9
def T230_7 : List Tok := (.getfield 7, 3, 704, 1345) :: T230_8
def T230_6 : List Tok := (.aload_n 0, 1, 0, 0) :: T230_7
def T230_5 : List Tok := (.irem, 1, 0, 0) :: T230_6
def T230_4 : List Tok := (.sipush 1000, 3, 0, 0) :: T230_5
def T230_3 : List Tok := (.iload_n 1, 1, 0, 0) :: T230_4
def T230_2 : List Tok := (.ifCond .eq 28, 3, 0, 0) :: T230_3
def T230_1 : List Tok := (.invokestatic 222, 3, 229, 1660) :: T230_2
def T230_0 : List Tok := (.iload_n 1, 1, 0, 0) :: T230_1
theorem o230_0 (hB : BytesOK) : okL 230 0 T230_0 = true := by
  have h := hB.1 230
  rw [show tk 230 = T230_0 from by decide +kernel] at h
  exact h
theorem o230_1 (hB : BytesOK) : okL 230 1 T230_1 = true := (okL_c (o230_0 hB)).2.2
theorem o230_2 (hB : BytesOK) : okL 230 4 T230_2 = true := (okL_c (o230_1 hB)).2.2
theorem o230_3 (hB : BytesOK) : okL 230 7 T230_3 = true := (okL_c (o230_2 hB)).2.2
theorem o230_4 (hB : BytesOK) : okL 230 8 T230_4 = true := (okL_c (o230_3 hB)).2.2
theorem o230_5 (hB : BytesOK) : okL 230 11 T230_5 = true := (okL_c (o230_4 hB)).2.2
theorem o230_6 (hB : BytesOK) : okL 230 12 T230_6 = true := (okL_c (o230_5 hB)).2.2
theorem o230_7 (hB : BytesOK) : okL 230 13 T230_7 = true := (okL_c (o230_6 hB)).2.2
theorem o230_8 (hB : BytesOK) : okL 230 16 T230_8 = true := (okL_c (o230_7 hB)).2.2
theorem o230_9 (hB : BytesOK) : okL 230 17 T230_9 = true := (okL_c (o230_8 hB)).2.2
theorem o230_10 (hB : BytesOK) : okL 230 18 T230_10 = true := (okL_c (o230_9 hB)).2.2
theorem o230_11 (hB : BytesOK) : okL 230 21 T230_11 = true := (okL_c (o230_10 hB)).2.2
theorem o230_12 (hB : BytesOK) : okL 230 22 T230_12 = true := (okL_c (o230_11 hB)).2.2
theorem o230_13 (hB : BytesOK) : okL 230 23 T230_13 = true := (okL_c (o230_12 hB)).2.2
theorem o230_14 (hB : BytesOK) : okL 230 26 T230_14 = true := (okL_c (o230_13 hB)).2.2
theorem o230_15 (hB : BytesOK) : okL 230 29 T230_15 = true := (okL_c (o230_14 hB)).2.2
theorem o230_16 (hB : BytesOK) : okL 230 32 T230_16 = true := (okL_c (o230_15 hB)).2.2
theorem o230_17 (hB : BytesOK) : okL 230 33 T230_17 = true := (okL_c (o230_16 hB)).2.2
theorem o230_18 (hB : BytesOK) : okL 230 34 T230_18 = true := (okL_c (o230_17 hB)).2.2
theorem o230_19 (hB : BytesOK) : okL 230 35 T230_19 = true := (okL_c (o230_18 hB)).2.2
theorem o230_20 (hB : BytesOK) : okL 230 38 T230_20 = true := (okL_c (o230_19 hB)).2.2
theorem o230_21 (hB : BytesOK) : okL 230 39 T230_21 = true := (okL_c (o230_20 hB)).2.2
theorem o230_22 (hB : BytesOK) : okL 230 40 T230_22 = true := (okL_c (o230_21 hB)).2.2
theorem o230_23 (hB : BytesOK) : okL 230 42 T230_23 = true := (okL_c (o230_22 hB)).2.2
theorem o230_24 (hB : BytesOK) : okL 230 45 T230_24 = true := (okL_c (o230_23 hB)).2.2
theorem o230_25 (hB : BytesOK) : okL 230 47 T230_25 = true := (okL_c (o230_24 hB)).2.2
theorem o230_26 (hB : BytesOK) : okL 230 48 T230_26 = true := (okL_c (o230_25 hB)).2.2
theorem o230_27 (hB : BytesOK) : okL 230 51 T230_27 = true := (okL_c (o230_26 hB)).2.2
theorem o230_28 (hB : BytesOK) : okL 230 52 T230_28 = true := (okL_c (o230_27 hB)).2.2
theorem o230_29 (hB : BytesOK) : okL 230 53 T230_29 = true := (okL_c (o230_28 hB)).2.2
theorem o230_30 (hB : BytesOK) : okL 230 56 T230_30 = true := (okL_c (o230_29 hB)).2.2
theorem o230_31 (hB : BytesOK) : okL 230 57 T230_31 = true := (okL_c (o230_30 hB)).2.2
theorem o230_32 (hB : BytesOK) : okL 230 58 T230_32 = true := (okL_c (o230_31 hB)).2.2
theorem o230_33 (hB : BytesOK) : okL 230 59 T230_33 = true := (okL_c (o230_32 hB)).2.2
theorem o230_34 (hB : BytesOK) : okL 230 60 T230_34 = true := (okL_c (o230_33 hB)).2.2
theorem o230_35 (hB : BytesOK) : okL 230 61 T230_35 = true := (okL_c (o230_34 hB)).2.2
theorem o230_36 (hB : BytesOK) : okL 230 62 T230_36 = true := (okL_c (o230_35 hB)).2.2
theorem o230_37 (hB : BytesOK) : okL 230 65 T230_37 = true := (okL_c (o230_36 hB)).2.2
theorem o230_38 (hB : BytesOK) : okL 230 66 T230_38 = true := (okL_c (o230_37 hB)).2.2
theorem o230_39 (hB : BytesOK) : okL 230 67 T230_39 = true := (okL_c (o230_38 hB)).2.2
theorem o230_40 (hB : BytesOK) : okL 230 70 T230_40 = true := (okL_c (o230_39 hB)).2.2
theorem o230_41 (hB : BytesOK) : okL 230 71 T230_41 = true := (okL_c (o230_40 hB)).2.2
theorem o230_42 (hB : BytesOK) : okL 230 72 T230_42 = true := (okL_c (o230_41 hB)).2.2
theorem o230_43 (hB : BytesOK) : okL 230 73 T230_43 = true := (okL_c (o230_42 hB)).2.2
theorem o230_44 (hB : BytesOK) : okL 230 76 T230_44 = true := (okL_c (o230_43 hB)).2.2
theorem o230_45 (hB : BytesOK) : okL 230 77 T230_45 = true := (okL_c (o230_44 hB)).2.2
theorem o230_46 (hB : BytesOK) : okL 230 78 T230_46 = true := (okL_c (o230_45 hB)).2.2
theorem o230_47 (hB : BytesOK) : okL 230 79 T230_47 = true := (okL_c (o230_46 hB)).2.2
theorem o230_48 (hB : BytesOK) : okL 230 80 T230_48 = true := (okL_c (o230_47 hB)).2.2
theorem o230_49 (hB : BytesOK) : okL 230 83 T230_49 = true := (okL_c (o230_48 hB)).2.2
theorem o230_50 (hB : BytesOK) : okL 230 84 T230_50 = true := (okL_c (o230_49 hB)).2.2
theorem o230_51 (hB : BytesOK) : okL 230 86 T230_51 = true := (okL_c (o230_50 hB)).2.2
theorem o230_52 (hB : BytesOK) : okL 230 87 T230_52 = true := (okL_c (o230_51 hB)).2.2
theorem o230_53 (hB : BytesOK) : okL 230 88 T230_53 = true := (okL_c (o230_52 hB)).2.2
theorem o230_54 (hB : BytesOK) : okL 230 89 T230_54 = true := (okL_c (o230_53 hB)).2.2
theorem o230_55 (hB : BytesOK) : okL 230 92 T230_55 = true := (okL_c (o230_54 hB)).2.2
theorem o230_56 (hB : BytesOK) : okL 230 93 T230_56 = true := (okL_c (o230_55 hB)).2.2
theorem o230_57 (hB : BytesOK) : okL 230 94 T230_57 = true := (okL_c (o230_56 hB)).2.2
theorem o230_58 (hB : BytesOK) : okL 230 95 T230_58 = true := (okL_c (o230_57 hB)).2.2
theorem o230_59 (hB : BytesOK) : okL 230 96 T230_59 = true := (okL_c (o230_58 hB)).2.2
theorem o230_60 (hB : BytesOK) : okL 230 99 T230_60 = true := (okL_c (o230_59 hB)).2.2
theorem o230_61 (hB : BytesOK) : okL 230 100 T230_61 = true := (okL_c (o230_60 hB)).2.2
theorem o230_62 (hB : BytesOK) : okL 230 101 T230_62 = true := (okL_c (o230_61 hB)).2.2
theorem o230_63 (hB : BytesOK) : okL 230 102 T230_63 = true := (okL_c (o230_62 hB)).2.2
theorem o230_64 (hB : BytesOK) : okL 230 105 T230_64 = true := (okL_c (o230_63 hB)).2.2
theorem o230_65 (hB : BytesOK) : okL 230 106 T230_65 = true := (okL_c (o230_64 hB)).2.2
theorem o230_66 (hB : BytesOK) : okL 230 107 T230_66 = true := (okL_c (o230_65 hB)).2.2
theorem o230_67 (hB : BytesOK) : okL 230 108 T230_67 = true := (okL_c (o230_66 hB)).2.2
theorem o230_68 (hB : BytesOK) : okL 230 109 T230_68 = true := (okL_c (o230_67 hB)).2.2
theorem o230_69 (hB : BytesOK) : okL 230 110 T230_69 = true := (okL_c (o230_68 hB)).2.2
theorem o230_70 (hB : BytesOK) : okL 230 111 T230_70 = true := (okL_c (o230_69 hB)).2.2
theorem o230_71 (hB : BytesOK) : okL 230 114 T230_71 = true := (okL_c (o230_70 hB)).2.2
theorem o230_72 (hB : BytesOK) : okL 230 115 T230_72 = true := (okL_c (o230_71 hB)).2.2
theorem o230_73 (hB : BytesOK) : okL 230 116 T230_73 = true := (okL_c (o230_72 hB)).2.2
theorem o230_74 (hB : BytesOK) : okL 230 117 T230_74 = true := (okL_c (o230_73 hB)).2.2
theorem o230_75 (hB : BytesOK) : okL 230 118 T230_75 = true := (okL_c (o230_74 hB)).2.2
theorem o230_76 (hB : BytesOK) : okL 230 121 T230_76 = true := (okL_c (o230_75 hB)).2.2
theorem o230_77 (hB : BytesOK) : okL 230 122 T230_77 = true := (okL_c (o230_76 hB)).2.2
theorem o230_78 (hB : BytesOK) : okL 230 123 T230_78 = true := (okL_c (o230_77 hB)).2.2
theorem o230_79 (hB : BytesOK) : okL 230 124 T230_79 = true := (okL_c (o230_78 hB)).2.2
theorem o230_80 (hB : BytesOK) : okL 230 125 T230_80 = true := (okL_c (o230_79 hB)).2.2
theorem o230_81 (hB : BytesOK) : okL 230 128 T230_81 = true := (okL_c (o230_80 hB)).2.2
theorem o230_82 (hB : BytesOK) : okL 230 129 T230_82 = true := (okL_c (o230_81 hB)).2.2
theorem o230_83 (hB : BytesOK) : okL 230 130 T230_83 = true := (okL_c (o230_82 hB)).2.2
theorem o230_84 (hB : BytesOK) : okL 230 131 T230_84 = true := (okL_c (o230_83 hB)).2.2
theorem o230_85 (hB : BytesOK) : okL 230 132 T230_85 = true := (okL_c (o230_84 hB)).2.2
theorem o230_86 (hB : BytesOK) : okL 230 133 T230_86 = true := (okL_c (o230_85 hB)).2.2
theorem o230_87 (hB : BytesOK) : okL 230 134 T230_87 = true := (okL_c (o230_86 hB)).2.2
theorem o230_88 (hB : BytesOK) : okL 230 135 T230_88 = true := (okL_c (o230_87 hB)).2.2
theorem o230_89 (hB : BytesOK) : okL 230 138 T230_89 = true := (okL_c (o230_88 hB)).2.2
theorem o230_90 (hB : BytesOK) : okL 230 139 T230_90 = true := (okL_c (o230_89 hB)).2.2
theorem o230_91 (hB : BytesOK) : okL 230 140 T230_91 = true := (okL_c (o230_90 hB)).2.2
theorem o230_92 (hB : BytesOK) : okL 230 141 T230_92 = true := (okL_c (o230_91 hB)).2.2
theorem o230_93 (hB : BytesOK) : okL 230 142 T230_93 = true := (okL_c (o230_92 hB)).2.2
theorem ml230 : mml 230 = 4 := by decide +kernel
theorem mr230 : mret 230 = some .int := by decide +kernel
theorem mg230 : kGood 230 = true := by decide +kernel

def T231_61 : List Tok := []
def T231_60 : List Tok := (.ireturn, 1, 0, 0) :: T231_61
def T231_59 : List Tok := (.iload 5, 2, 0, 0) :: T231_60
def T231_58 : List Tok := (.goto (-93), 3, 0, 0) :: T231_59
def T231_57 : List Tok := (.iinc 6 1, 3, 0, 0) :: T231_58
def T231_56 : List Tok := (.istore 5, 2, 0, 0) :: T231_57
def T231_55 : List Tok := (.iadd, 1, 0, 0) :: T231_56
def T231_54 : List Tok := (.iconst 0, 1, 0, 0) :: T231_55
def T231_53 : List Tok := (.goto 4, 3, 0, 0) :: T231_54
def T231_52 : List Tok := (.iaload, 1, 0, 0) :: T231_53
def T231_51 : List Tok := (.iadd, 1, 0, 0) :: T231_52
def T231_50 : List Tok := (.iconst 3, 1, 0, 0) :: T231_51
def T231_49 : List Tok := (.iload 7, 2, 0, 0) :: T231_50
def T231_48 : List Tok := (.getfield 7, 3, 704, 1345) :: T231_49
def T231_47 : List Tok := (.aload_n 0, 1, 0, 0) :: T231_48
def T231_46 : List Tok := (.if_icmp .gt 15, 3, 0, 0) :: T231_47
def T231_45 : List Tok := (.iload 4, 2, 0, 0) :: T231_46
def T231_44 : List Tok := (.iaload, 1, 0, 0) :: T231_45
def T231_43 : List Tok := (.iadd, 1, 0, 0) :: T231_44
def T231_42 : List Tok := (.iconst 4, 1, 0, 0) :: T231_43
def T231_41 : List Tok := (.iload 7, 2, 0, 0) :: T231_42
def T231_40 : List Tok := (.getfield 7, 3, 704, 1345) :: T231_41
def T231_39 : List Tok := (.aload_n 0, 1, 0, 0) :: T231_40
def T231_38 : List Tok := (.if_icmp .ne 29, 3, 0, 0) :: T231_39
def T231_37 : List Tok := (.iload_n 3, 1, 0, 0) :: T231_38
def T231_36 : List Tok := (.iaload, 1, 0, 0) :: T231_37
def T231_35 : List Tok := (.iadd, 1, 0, 0) :: T231_36
def T231_34 : List Tok := (.iconst 2, 1, 0, 0) :: T231_35
def T231_33 : List Tok := (.iload 7, 2, 0, 0) :: T231_34
def T231_32 : List Tok := (.getfield 7, 3, 704, 1345) :: T231_33
def T231_31 : List Tok := (.aload_n 0, 1, 0, 0) :: T231_32
def T231_30 : List Tok := (.if_icmp .ne 42, 3, 0, 0) :: T231_31
def T231_29 : List Tok := (.iload_n 2, 1, 0, 0) :: T231_30
def T231_28 : List Tok := (.iaload, 1, 0, 0) :: T231_29
def T231_27 : List Tok := (.iadd, 1, 0, 0) :: T231_28
def T231_26 : List Tok := (.iconst 1, 1, 0, 0) :: T231_27
def T231_25 : List Tok := (.iload 7, 2, 0, 0) :: T231_26
def T231_24 : List Tok := (.getfield 7, 3, 704, 1345) :: T231_25
def T231_23 : List Tok := (.aload_n 0, 1, 0, 0) :: T231_24
def T231_22 : List Tok := (.if_icmp .ne 55, 3, 0, 0) :: T231_23
def T231_21 : List Tok := (.iload_n 1, 1, 0, 0) :: T231_22
def T231_20 : List Tok := (.iaload, 1, 0, 0) :: T231_21
def T231_19 : List Tok := (.iload 7, 2, 0, 0) :: T231_20
def T231_18 : List Tok := (.getfield 7, 3, 704, 1345) :: T231_19
def T231_17 : List Tok := (.aload_n 0, 1, 0, 0) :: T231_18
def T231_16 : List Tok := (.iload 5, 2, 0, 0) :: T231_17
def T231_15 : List Tok := (.istore 7, 2, 0, 0) :: T231_16
def T231_14 : List Tok := (.iadd, 1, 0, 0) :: T231_15
def T231_13 : List Tok := (.imul, 1, 0, 0) :: T231_14
def T231_12 : List Tok := (.iload 6, 2, 0, 0) :: T231_13
def T231_11 : List Tok := (.iconst 5, 1, 0, 0) :: T231_12
def T231_10 : List Tok := (.sipush 306, 3, 0, 0) :: T231_11
def T231_9 : List Tok := (.if_icmp .ge 88, 3, 0, 0) :: T231_10
def T231_8 : List Tok := (.iaload, 1, 0, 0) :: T231_9
def T231_7 : List Tok := (.iconst 5, 1, 0, 0) :: T231_8
def T231_6 : List Tok := (.getfield 7, 3, 704, 1345) :: T231_7
def T231_5 : List Tok := (.aload_n 0, 1, 0, 0) :: T231_6
def T231_4 : List Tok := (.iload 6, 2, 0, 0) :: T231_5
def T231_3 : List Tok := (.istore 6, 2, 0, 0) :: T231_4
def T231_2 : List Tok := (.iconst 0, 1, 0, 0) :: T231_3
def T231_1 : List Tok := (.istore 5, 2, 0, 0) :: T231_2
def T231_0 : List Tok := (.iconst 0, 1, 0, 0) :: T231_1
theorem o231_0 (hB : BytesOK) : okL 231 0 T231_0 = true := by
  have h := hB.1 231
  rw [show tk 231 = T231_0 from by decide +kernel] at h
  exact h
theorem o231_1 (hB : BytesOK) : okL 231 1 T231_1 = true := (okL_c (o231_0 hB)).2.2
theorem o231_2 (hB : BytesOK) : okL 231 3 T231_2 = true := (okL_c (o231_1 hB)).2.2
theorem o231_3 (hB : BytesOK) : okL 231 4 T231_3 = true := (okL_c (o231_2 hB)).2.2
theorem o231_4 (hB : BytesOK) : okL 231 6 T231_4 = true := (okL_c (o231_3 hB)).2.2
theorem o231_5 (hB : BytesOK) : okL 231 8 T231_5 = true := (okL_c (o231_4 hB)).2.2
theorem o231_6 (hB : BytesOK) : okL 231 9 T231_6 = true := (okL_c (o231_5 hB)).2.2
theorem o231_7 (hB : BytesOK) : okL 231 12 T231_7 = true := (okL_c (o231_6 hB)).2.2
theorem o231_8 (hB : BytesOK) : okL 231 13 T231_8 = true := (okL_c (o231_7 hB)).2.2
theorem o231_9 (hB : BytesOK) : okL 231 14 T231_9 = true := (okL_c (o231_8 hB)).2.2
theorem o231_10 (hB : BytesOK) : okL 231 17 T231_10 = true := (okL_c (o231_9 hB)).2.2
theorem o231_11 (hB : BytesOK) : okL 231 20 T231_11 = true := (okL_c (o231_10 hB)).2.2
theorem o231_12 (hB : BytesOK) : okL 231 21 T231_12 = true := (okL_c (o231_11 hB)).2.2
theorem o231_13 (hB : BytesOK) : okL 231 23 T231_13 = true := (okL_c (o231_12 hB)).2.2
theorem o231_14 (hB : BytesOK) : okL 231 24 T231_14 = true := (okL_c (o231_13 hB)).2.2
theorem o231_15 (hB : BytesOK) : okL 231 25 T231_15 = true := (okL_c (o231_14 hB)).2.2
theorem o231_16 (hB : BytesOK) : okL 231 27 T231_16 = true := (okL_c (o231_15 hB)).2.2
theorem o231_17 (hB : BytesOK) : okL 231 29 T231_17 = true := (okL_c (o231_16 hB)).2.2
theorem o231_18 (hB : BytesOK) : okL 231 30 T231_18 = true := (okL_c (o231_17 hB)).2.2
theorem o231_19 (hB : BytesOK) : okL 231 33 T231_19 = true := (okL_c (o231_18 hB)).2.2
theorem o231_20 (hB : BytesOK) : okL 231 35 T231_20 = true := (okL_c (o231_19 hB)).2.2
theorem o231_21 (hB : BytesOK) : okL 231 36 T231_21 = true := (okL_c (o231_20 hB)).2.2
theorem o231_22 (hB : BytesOK) : okL 231 37 T231_22 = true := (okL_c (o231_21 hB)).2.2
theorem o231_23 (hB : BytesOK) : okL 231 40 T231_23 = true := (okL_c (o231_22 hB)).2.2
theorem o231_24 (hB : BytesOK) : okL 231 41 T231_24 = true := (okL_c (o231_23 hB)).2.2
theorem o231_25 (hB : BytesOK) : okL 231 44 T231_25 = true := (okL_c (o231_24 hB)).2.2
theorem o231_26 (hB : BytesOK) : okL 231 46 T231_26 = true := (okL_c (o231_25 hB)).2.2
theorem o231_27 (hB : BytesOK) : okL 231 47 T231_27 = true := (okL_c (o231_26 hB)).2.2
theorem o231_28 (hB : BytesOK) : okL 231 48 T231_28 = true := (okL_c (o231_27 hB)).2.2
theorem o231_29 (hB : BytesOK) : okL 231 49 T231_29 = true := (okL_c (o231_28 hB)).2.2
theorem o231_30 (hB : BytesOK) : okL 231 50 T231_30 = true := (okL_c (o231_29 hB)).2.2
theorem o231_31 (hB : BytesOK) : okL 231 53 T231_31 = true := (okL_c (o231_30 hB)).2.2
theorem o231_32 (hB : BytesOK) : okL 231 54 T231_32 = true := (okL_c (o231_31 hB)).2.2
theorem o231_33 (hB : BytesOK) : okL 231 57 T231_33 = true := (okL_c (o231_32 hB)).2.2
theorem o231_34 (hB : BytesOK) : okL 231 59 T231_34 = true := (okL_c (o231_33 hB)).2.2
theorem o231_35 (hB : BytesOK) : okL 231 60 T231_35 = true := (okL_c (o231_34 hB)).2.2
theorem o231_36 (hB : BytesOK) : okL 231 61 T231_36 = true := (okL_c (o231_35 hB)).2.2
theorem o231_37 (hB : BytesOK) : okL 231 62 T231_37 = true := (okL_c (o231_36 hB)).2.2
theorem o231_38 (hB : BytesOK) : okL 231 63 T231_38 = true := (okL_c (o231_37 hB)).2.2
theorem o231_39 (hB : BytesOK) : okL 231 66 T231_39 = true := (okL_c (o231_38 hB)).2.2
theorem o231_40 (hB : BytesOK) : okL 231 67 T231_40 = true := (okL_c (o231_39 hB)).2.2
theorem o231_41 (hB : BytesOK) : okL 231 70 T231_41 = true := (okL_c (o231_40 hB)).2.2
theorem o231_42 (hB : BytesOK) : okL 231 72 T231_42 = true := (okL_c (o231_41 hB)).2.2
theorem o231_43 (hB : BytesOK) : okL 231 73 T231_43 = true := (okL_c (o231_42 hB)).2.2
theorem o231_44 (hB : BytesOK) : okL 231 74 T231_44 = true := (okL_c (o231_43 hB)).2.2
theorem o231_45 (hB : BytesOK) : okL 231 75 T231_45 = true := (okL_c (o231_44 hB)).2.2
theorem o231_46 (hB : BytesOK) : okL 231 77 T231_46 = true := (okL_c (o231_45 hB)).2.2
theorem o231_47 (hB : BytesOK) : okL 231 80 T231_47 = true := (okL_c (o231_46 hB)).2.2
theorem o231_48 (hB : BytesOK) : okL 231 81 T231_48 = true := (okL_c (o231_47 hB)).2.2
theorem o231_49 (hB : BytesOK) : okL 231 84 T231_49 = true := (okL_c (o231_48 hB)).2.2
theorem o231_50 (hB : BytesOK) : okL 231 86 T231_50 = true := (okL_c (o231_49 hB)).2.2
theorem o231_51 (hB : BytesOK) : okL 231 87 T231_51 = true := (okL_c (o231_50 hB)).2.2
theorem o231_52 (hB : BytesOK) : okL 231 88 T231_52 = true := (okL_c (o231_51 hB)).2.2
theorem o231_53 (hB : BytesOK) : okL 231 89 T231_53 = true := (okL_c (o231_52 hB)).2.2
theorem o231_54 (hB : BytesOK) : okL 231 92 T231_54 = true := (okL_c (o231_53 hB)).2.2
theorem o231_55 (hB : BytesOK) : okL 231 93 T231_55 = true := (okL_c (o231_54 hB)).2.2
theorem o231_56 (hB : BytesOK) : okL 231 94 T231_56 = true := (okL_c (o231_55 hB)).2.2
theorem o231_57 (hB : BytesOK) : okL 231 96 T231_57 = true := (okL_c (o231_56 hB)).2.2
theorem o231_58 (hB : BytesOK) : okL 231 99 T231_58 = true := (okL_c (o231_57 hB)).2.2
theorem o231_59 (hB : BytesOK) : okL 231 102 T231_59 = true := (okL_c (o231_58 hB)).2.2
theorem o231_60 (hB : BytesOK) : okL 231 104 T231_60 = true := (okL_c (o231_59 hB)).2.2
theorem ml231 : mml 231 = 8 := by decide +kernel
theorem mr231 : mret 231 = some .int := by decide +kernel
theorem mg231 : kGood 231 = true := by decide +kernel

def T232_23 : List Tok := []
def T232_22 : List Tok := (.ireturn, 1, 0, 0) :: T232_23
def T232_21 : List Tok := (.invokevirtual 225, 3, 231, 1668) :: T232_22
def T232_20 : List Tok := (.iload_n 2, 1, 0, 0) :: T232_21
def T232_19 : List Tok := (.irem, 1, 0, 0) :: T232_20
def T232_18 : List Tok := (.sipush 1000, 3, 0, 0) :: T232_19
def T232_17 : List Tok := (.iload_n 1, 1, 0, 0) :: T232_18
def T232_16 : List Tok := (.irem, 1, 0, 0) :: T232_17
def T232_15 : List Tok := (.bipush 10, 2, 0, 0) :: T232_16
def T232_14 : List Tok := (.idiv, 1, 0, 0) :: T232_15
def T232_13 : List Tok := (.sipush 1000, 3, 0, 0) :: T232_14
def T232_12 : List Tok := (.iload_n 1, 1, 0, 0) :: T232_13
def T232_11 : List Tok := (.idiv, 1, 0, 0) :: T232_12
def T232_10 : List Tok := (.sipush 10000, 3, 0, 0) :: T232_11
def T232_9 : List Tok := (.iload_n 1, 1, 0, 0) :: T232_10
def T232_8 : List Tok := (.aload_n 0, 1, 0, 0) :: T232_9
def T232_7 : List Tok := (.ireturn, 1, 0, 0) :: T232_8
def T232_6 : List Tok := (.iconst (-1), 1, 0, 0) :: T232_7
def T232_5 : List Tok := (.ifCond .ne 5, 3, 0, 0) :: T232_6
def T232_4 : List Tok := (.invokestatic 72, 3, 185, 1501) :: T232_5
def T232_3 : List Tok := (.iload_n 2, 1, 0, 0) :: T232_4
def T232_2 : List Tok := (.ifCond .eq 10, 3, 0, 0) :: T232_3
def T232_1 : List Tok := (.invokestatic 222, 3, 229, 1660) :: T232_2
def T232_0 : List Tok := (.iload_n 1, 1, 0, 0) :: T232_1
theorem o232_0 (hB : BytesOK) : okL 232 0 T232_0 = true := by
  have h := hB.1 232
  rw [show tk 232 = T232_0 from by decide +kernel] at h
  exact h
theorem o232_1 (hB : BytesOK) : okL 232 1 T232_1 = true := (okL_c (o232_0 hB)).2.2
theorem o232_2 (hB : BytesOK) : okL 232 4 T232_2 = true := (okL_c (o232_1 hB)).2.2
theorem o232_3 (hB : BytesOK) : okL 232 7 T232_3 = true := (okL_c (o232_2 hB)).2.2
theorem o232_4 (hB : BytesOK) : okL 232 8 T232_4 = true := (okL_c (o232_3 hB)).2.2
theorem o232_5 (hB : BytesOK) : okL 232 11 T232_5 = true := (okL_c (o232_4 hB)).2.2
theorem o232_6 (hB : BytesOK) : okL 232 14 T232_6 = true := (okL_c (o232_5 hB)).2.2
theorem o232_7 (hB : BytesOK) : okL 232 15 T232_7 = true := (okL_c (o232_6 hB)).2.2
theorem o232_8 (hB : BytesOK) : okL 232 16 T232_8 = true := (okL_c (o232_7 hB)).2.2
theorem o232_9 (hB : BytesOK) : okL 232 17 T232_9 = true := (okL_c (o232_8 hB)).2.2
theorem o232_10 (hB : BytesOK) : okL 232 18 T232_10 = true := (okL_c (o232_9 hB)).2.2
theorem o232_11 (hB : BytesOK) : okL 232 21 T232_11 = true := (okL_c (o232_10 hB)).2.2
theorem o232_12 (hB : BytesOK) : okL 232 22 T232_12 = true := (okL_c (o232_11 hB)).2.2
theorem o232_13 (hB : BytesOK) : okL 232 23 T232_13 = true := (okL_c (o232_12 hB)).2.2
theorem o232_14 (hB : BytesOK) : okL 232 26 T232_14 = true := (okL_c (o232_13 hB)).2.2
theorem o232_15 (hB : BytesOK) : okL 232 27 T232_15 = true := (okL_c (o232_14 hB)).2.2
theorem o232_16 (hB : BytesOK) : okL 232 29 T232_16 = true := (okL_c (o232_15 hB)).2.2
theorem o232_17 (hB : BytesOK) : okL 232 30 T232_17 = true := (okL_c (o232_16 hB)).2.2
theorem o232_18 (hB : BytesOK) : okL 232 31 T232_18 = true := (okL_c (o232_17 hB)).2.2
theorem o232_19 (hB : BytesOK) : okL 232 34 T232_19 = true := (okL_c (o232_18 hB)).2.2
theorem o232_20 (hB : BytesOK) : okL 232 35 T232_20 = true := (okL_c (o232_19 hB)).2.2
theorem o232_21 (hB : BytesOK) : okL 232 36 T232_21 = true := (okL_c (o232_20 hB)).2.2
theorem o232_22 (hB : BytesOK) : okL 232 39 T232_22 = true := (okL_c (o232_21 hB)).2.2
theorem ml232 : mml 232 = 3 := by decide +kernel
theorem mr232 : mret 232 = some .int := by decide +kernel
theorem mg232 : kGood 232 = true := by decide +kernel

def T244_88 : List Tok := []
def T244_87 : List Tok := (.ireturn, 1, 0, 0) :: T244_88
def T244_86 : List Tok := (.isub, 1, 0, 0) :: T244_87
def T244_85 : List Tok := (.iconst 1, 1, 0, 0) :: T244_86
def T244_84 : List Tok := (.iaload, 1, 0, 0) :: T244_85
def T244_83 : List Tok := (.bipush 8, 2, 0, 0) :: T244_84
def T244_82 : List Tok := (.getfield 7, 3, 704, 1345) :: T244_83
def T244_81 : List Tok := (.aload_n 0, 1, 0, 0) :: T244_82
def T244_80 : List Tok := (.iastore, 1, 0, 0) :: T244_81
def T244_79 : List Tok := (.iadd, 1, 0, 0) :: T244_80
def T244_78 : List Tok := (.iconst 1, 1, 0, 0) :: T244_79
def T244_77 : List Tok := (.iaload, 1, 0, 0) :: T244_78
def T244_76 : List Tok := (.dup2, 1, 0, 0) :: T244_77
def T244_75 : List Tok := (.bipush 8, 2, 0, 0) :: T244_76
def T244_74 : List Tok := (.getfield 7, 3, 704, 1345) :: T244_75
def T244_73 : List Tok := (.aload_n 0, 1, 0, 0) :: T244_74
def T244_72 : List Tok := (.iastore, 1, 0, 0) :: T244_73
def T244_71 : List Tok := (.iload_n 3, 1, 0, 0) :: T244_72
def T244_70 : List Tok := (.iadd, 1, 0, 0) :: T244_71
def T244_69 : List Tok := (.iconst 4, 1, 0, 0) :: T244_70
def T244_68 : List Tok := (.iload 4, 2, 0, 0) :: T244_69
def T244_67 : List Tok := (.getfield 7, 3, 704, 1345) :: T244_68
def T244_66 : List Tok := (.aload_n 0, 1, 0, 0) :: T244_67
def T244_65 : List Tok := (.iastore, 1, 0, 0) :: T244_66
def T244_64 : List Tok := (.iload_n 2, 1, 0, 0) :: T244_65
def T244_63 : List Tok := (.iadd, 1, 0, 0) :: T244_64
def T244_62 : List Tok := (.iconst 3, 1, 0, 0) :: T244_63
def T244_61 : List Tok := (.iload 4, 2, 0, 0) :: T244_62
def T244_60 : List Tok := (.getfield 7, 3, 704, 1345) :: T244_61
def T244_59 : List Tok := (.aload_n 0, 1, 0, 0) :: T244_60
def T244_58 : List Tok := (.iastore, 1, 0, 0) :: T244_59
def T244_57 : List Tok := (.irem, 1, 0, 0) :: T244_58
def T244_56 : List Tok := (.sipush 1000, 3, 0, 0) :: T244_57
def T244_55 : List Tok := (.iload_n 1, 1, 0, 0) :: T244_56
def T244_54 : List Tok := (.iadd, 1, 0, 0) :: T244_55
def T244_53 : List Tok := (.iconst 2, 1, 0, 0) :: T244_54
def T244_52 : List Tok := (.iload 4, 2, 0, 0) :: T244_53
def T244_51 : List Tok := (.getfield 7, 3, 704, 1345) :: T244_52
def T244_50 : List Tok := (.aload_n 0, 1, 0, 0) :: T244_51
def T244_49 : List Tok := (.iastore, 1, 0, 0) :: T244_50
def T244_48 : List Tok := (.irem, 1, 0, 0) :: T244_49
def T244_47 : List Tok := (.bipush 10, 2, 0, 0) :: T244_48
def T244_46 : List Tok := (.idiv, 1, 0, 0) :: T244_47
def T244_45 : List Tok := (.sipush 1000, 3, 0, 0) :: T244_46
def T244_44 : List Tok := (.iload_n 1, 1, 0, 0) :: T244_45
def T244_43 : List Tok := (.iadd, 1, 0, 0) :: T244_44
def T244_42 : List Tok := (.iconst 1, 1, 0, 0) :: T244_43
def T244_41 : List Tok := (.iload 4, 2, 0, 0) :: T244_42
def T244_40 : List Tok := (.getfield 7, 3, 704, 1345) :: T244_41
def T244_39 : List Tok := (.aload_n 0, 1, 0, 0) :: T244_40
def T244_38 : List Tok := (.iastore, 1, 0, 0) :: T244_39
def T244_37 : List Tok := (.idiv, 1, 0, 0) :: T244_38
def T244_36 : List Tok := (.sipush 10000, 3, 0, 0) :: T244_37
def T244_35 : List Tok := (.iload_n 1, 1, 0, 0) :: T244_36
def T244_34 : List Tok := (.iload 4, 2, 0, 0) :: T244_35
def T244_33 : List Tok := (.getfield 7, 3, 704, 1345) :: T244_34
def T244_32 : List Tok := (.aload_n 0, 1, 0, 0) :: T244_33
def T244_31 : List Tok := (.istore 4, 2, 0, 0) :: T244_32
def T244_30 : List Tok := (.iadd, 1, 0, 0) :: T244_31
def T244_29 : List Tok := (.imul, 1, 0, 0) :: T244_30
def T244_28 : List Tok := (.iaload, 1, 0, 0) :: T244_29
def T244_27 : List Tok := (.bipush 8, 2, 0, 0) :: T244_28
def T244_26 : List Tok := (.getfield 7, 3, 704, 1345) :: T244_27
def T244_25 : List Tok := (.aload_n 0, 1, 0, 0) :: T244_26
def T244_24 : List Tok := (.iconst 5, 1, 0, 0) :: T244_25
def T244_23 : List Tok := (.sipush 514, 3, 0, 0) :: T244_24
def T244_22 : List Tok := (.ireturn, 1, 0, 0) :: T244_23
def T244_21 : List Tok := (.bipush (-2), 2, 0, 0) :: T244_22
def T244_20 : List Tok := (.if_icmp .ne 6, 3, 0, 0) :: T244_21
def T244_19 : List Tok := (.bipush 12, 2, 0, 0) :: T244_20
def T244_18 : List Tok := (.iaload, 1, 0, 0) :: T244_19
def T244_17 : List Tok := (.bipush 8, 2, 0, 0) :: T244_18
def T244_16 : List Tok := (.getfield 7, 3, 704, 1345) :: T244_17
def T244_15 : List Tok := (.aload_n 0, 1, 0, 0) :: T244_16
def T244_14 : List Tok := (.ireturn, 1, 0, 0) :: T244_15
def T244_13 : List Tok := (.iconst (-1), 1, 0, 0) :: T244_14
def T244_12 : List Tok := (.ifCond .ne 5, 3, 0, 0) :: T244_13
def T244_11 : List Tok := (.invokestatic 64, 3, 184, 1491) :: T244_12
def T244_10 : List Tok := (.sipush 9999, 3, 0, 0) :: T244_11
def T244_9 : List Tok := (.iload_n 2, 1, 0, 0) :: T244_10
def T244_8 : List Tok := (.iload_n 3, 1, 0, 0) :: T244_9
def T244_7 : List Tok := (.ifCond .eq 14, 3, 0, 0) :: T244_8
def T244_6 : List Tok := (.invokestatic 64, 3, 184, 1491) :: T244_7
def T244_5 : List Tok := (.sipush 9999, 3, 0, 0) :: T244_6
def T244_4 : List Tok := (.iconst 0, 1, 0, 0) :: T244_5
def T244_3 : List Tok := (.iload_n 2, 1, 0, 0) :: T244_4
def T244_2 : List Tok := (.ifCond .eq 25, 3, 0, 0) :: T244_3
def T244_1 : List Tok := (.invokestatic 222, 3, 229, 1660) :: T244_2
def T244_0 : List Tok := (.iload_n 1, 1, 0, 0) :: T244_1
theorem o244_0 (hB : BytesOK) : okL 244 0 T244_0 = true := by
  have h := hB.1 244
  rw [show tk 244 = T244_0 from by decide +kernel] at h
  exact h
theorem o244_1 (hB : BytesOK) : okL 244 1 T244_1 = true := (okL_c (o244_0 hB)).2.2
theorem o244_2 (hB : BytesOK) : okL 244 4 T244_2 = true := (okL_c (o244_1 hB)).2.2
theorem o244_3 (hB : BytesOK) : okL 244 7 T244_3 = true := (okL_c (o244_2 hB)).2.2
theorem o244_4 (hB : BytesOK) : okL 244 8 T244_4 = true := (okL_c (o244_3 hB)).2.2
theorem o244_5 (hB : BytesOK) : okL 244 9 T244_5 = true := (okL_c (o244_4 hB)).2.2
theorem o244_6 (hB : BytesOK) : okL 244 12 T244_6 = true := (okL_c (o244_5 hB)).2.2
theorem o244_7 (hB : BytesOK) : okL 244 15 T244_7 = true := (okL_c (o244_6 hB)).2.2
theorem o244_8 (hB : BytesOK) : okL 244 18 T244_8 = true := (okL_c (o244_7 hB)).2.2
theorem o244_9 (hB : BytesOK) : okL 244 19 T244_9 = true := (okL_c (o244_8 hB)).2.2
theorem o244_10 (hB : BytesOK) : okL 244 20 T244_10 = true := (okL_c (o244_9 hB)).2.2
theorem o244_11 (hB : BytesOK) : okL 244 23 T244_11 = true := (okL_c (o244_10 hB)).2.2
theorem o244_12 (hB : BytesOK) : okL 244 26 T244_12 = true := (okL_c (o244_11 hB)).2.2
theorem o244_13 (hB : BytesOK) : okL 244 29 T244_13 = true := (okL_c (o244_12 hB)).2.2
theorem o244_14 (hB : BytesOK) : okL 244 30 T244_14 = true := (okL_c (o244_13 hB)).2.2
theorem o244_15 (hB : BytesOK) : okL 244 31 T244_15 = true := (okL_c (o244_14 hB)).2.2
theorem o244_16 (hB : BytesOK) : okL 244 32 T244_16 = true := (okL_c (o244_15 hB)).2.2
theorem o244_17 (hB : BytesOK) : okL 244 35 T244_17 = true := (okL_c (o244_16 hB)).2.2
theorem o244_18 (hB : BytesOK) : okL 244 37 T244_18 = true := (okL_c (o244_17 hB)).2.2
theorem o244_19 (hB : BytesOK) : okL 244 38 T244_19 = true := (okL_c (o244_18 hB)).2.2
theorem o244_20 (hB : BytesOK) : okL 244 40 T244_20 = true := (okL_c (o244_19 hB)).2.2
theorem o244_21 (hB : BytesOK) : okL 244 43 T244_21 = true := (okL_c (o244_20 hB)).2.2
theorem o244_22 (hB : BytesOK) : okL 244 45 T244_22 = true := (okL_c (o244_21 hB)).2.2
theorem o244_23 (hB : BytesOK) : okL 244 46 T244_23 = true := (okL_c (o244_22 hB)).2.2
theorem o244_24 (hB : BytesOK) : okL 244 49 T244_24 = true := (okL_c (o244_23 hB)).2.2
theorem o244_25 (hB : BytesOK) : okL 244 50 T244_25 = true := (okL_c (o244_24 hB)).2.2
theorem o244_26 (hB : BytesOK) : okL 244 51 T244_26 = true := (okL_c (o244_25 hB)).2.2
theorem o244_27 (hB : BytesOK) : okL 244 54 T244_27 = true := (okL_c (o244_26 hB)).2.2
theorem o244_28 (hB : BytesOK) : okL 244 56 T244_28 = true := (okL_c (o244_27 hB)).2.2
theorem o244_29 (hB : BytesOK) : okL 244 57 T244_29 = true := (okL_c (o244_28 hB)).2.2
theorem o244_30 (hB : BytesOK) : okL 244 58 T244_30 = true := (okL_c (o244_29 hB)).2.2
theorem o244_31 (hB : BytesOK) : okL 244 59 T244_31 = true := (okL_c (o244_30 hB)).2.2
theorem o244_32 (hB : BytesOK) : okL 244 61 T244_32 = true := (okL_c (o244_31 hB)).2.2
theorem o244_33 (hB : BytesOK) : okL 244 62 T244_33 = true := (okL_c (o244_32 hB)).2.2
theorem o244_34 (hB : BytesOK) : okL 244 65 T244_34 = true := (okL_c (o244_33 hB)).2.2
theorem o244_35 (hB : BytesOK) : okL 244 67 T244_35 = true := (okL_c (o244_34 hB)).2.2
theorem o244_36 (hB : BytesOK) : okL 244 68 T244_36 = true := (okL_c (o244_35 hB)).2.2
theorem o244_37 (hB : BytesOK) : okL 244 71 T244_37 = true := (okL_c (o244_36 hB)).2.2
theorem o244_38 (hB : BytesOK) : okL 244 72 T244_38 = true := (okL_c (o244_37 hB)).2.2
theorem o244_39 (hB : BytesOK) : okL 244 73 T244_39 = true := (okL_c (o244_38 hB)).2.2
theorem o244_40 (hB : BytesOK) : okL 244 74 T244_40 = true := (okL_c (o244_39 hB)).2.2
theorem o244_41 (hB : BytesOK) : okL 244 77 T244_41 = true := (okL_c (o244_40 hB)).2.2
theorem o244_42 (hB : BytesOK) : okL 244 79 T244_42 = true := (okL_c (o244_41 hB)).2.2
theorem o244_43 (hB : BytesOK) : okL 244 80 T244_43 = true := (okL_c (o244_42 hB)).2.2
theorem o244_44 (hB : BytesOK) : okL 244 81 T244_44 = true := (okL_c (o244_43 hB)).2.2
theorem o244_45 (hB : BytesOK) : okL 244 82 T244_45 = true := (okL_c (o244_44 hB)).2.2
theorem o244_46 (hB : BytesOK) : okL 244 85 T244_46 = true := (okL_c (o244_45 hB)).2.2
theorem o244_47 (hB : BytesOK) : okL 244 86 T244_47 = true := (okL_c (o244_46 hB)).2.2
theorem o244_48 (hB : BytesOK) : okL 244 88 T244_48 = true := (okL_c (o244_47 hB)).2.2
theorem o244_49 (hB : BytesOK) : okL 244 89 T244_49 = true := (okL_c (o244_48 hB)).2.2
theorem o244_50 (hB : BytesOK) : okL 244 90 T244_50 = true := (okL_c (o244_49 hB)).2.2
theorem o244_51 (hB : BytesOK) : okL 244 91 T244_51 = true := (okL_c (o244_50 hB)).2.2
theorem o244_52 (hB : BytesOK) : okL 244 94 T244_52 = true := (okL_c (o244_51 hB)).2.2
theorem o244_53 (hB : BytesOK) : okL 244 96 T244_53 = true := (okL_c (o244_52 hB)).2.2
theorem o244_54 (hB : BytesOK) : okL 244 97 T244_54 = true := (okL_c (o244_53 hB)).2.2
theorem o244_55 (hB : BytesOK) : okL 244 98 T244_55 = true := (okL_c (o244_54 hB)).2.2
theorem o244_56 (hB : BytesOK) : okL 244 99 T244_56 = true := (okL_c (o244_55 hB)).2.2
theorem o244_57 (hB : BytesOK) : okL 244 102 T244_57 = true := (okL_c (o244_56 hB)).2.2
theorem o244_58 (hB : BytesOK) : okL 244 103 T244_58 = true := (okL_c (o244_57 hB)).2.2
theorem o244_59 (hB : BytesOK) : okL 244 104 T244_59 = true := (okL_c (o244_58 hB)).2.2
theorem o244_60 (hB : BytesOK) : okL 244 105 T244_60 = true := (okL_c (o244_59 hB)).2.2
theorem o244_61 (hB : BytesOK) : okL 244 108 T244_61 = true := (okL_c (o244_60 hB)).2.2
theorem o244_62 (hB : BytesOK) : okL 244 110 T244_62 = true := (okL_c (o244_61 hB)).2.2
theorem o244_63 (hB : BytesOK) : okL 244 111 T244_63 = true := (okL_c (o244_62 hB)).2.2
theorem o244_64 (hB : BytesOK) : okL 244 112 T244_64 = true := (okL_c (o244_63 hB)).2.2
theorem o244_65 (hB : BytesOK) : okL 244 113 T244_65 = true := (okL_c (o244_64 hB)).2.2
theorem o244_66 (hB : BytesOK) : okL 244 114 T244_66 = true := (okL_c (o244_65 hB)).2.2
theorem o244_67 (hB : BytesOK) : okL 244 115 T244_67 = true := (okL_c (o244_66 hB)).2.2
theorem o244_68 (hB : BytesOK) : okL 244 118 T244_68 = true := (okL_c (o244_67 hB)).2.2
theorem o244_69 (hB : BytesOK) : okL 244 120 T244_69 = true := (okL_c (o244_68 hB)).2.2
theorem o244_70 (hB : BytesOK) : okL 244 121 T244_70 = true := (okL_c (o244_69 hB)).2.2
theorem o244_71 (hB : BytesOK) : okL 244 122 T244_71 = true := (okL_c (o244_70 hB)).2.2
theorem o244_72 (hB : BytesOK) : okL 244 123 T244_72 = true := (okL_c (o244_71 hB)).2.2
theorem o244_73 (hB : BytesOK) : okL 244 124 T244_73 = true := (okL_c (o244_72 hB)).2.2
theorem o244_74 (hB : BytesOK) : okL 244 125 T244_74 = true := (okL_c (o244_73 hB)).2.2
theorem o244_75 (hB : BytesOK) : okL 244 128 T244_75 = true := (okL_c (o244_74 hB)).2.2
theorem o244_76 (hB : BytesOK) : okL 244 130 T244_76 = true := (okL_c (o244_75 hB)).2.2
theorem o244_77 (hB : BytesOK) : okL 244 131 T244_77 = true := (okL_c (o244_76 hB)).2.2
theorem o244_78 (hB : BytesOK) : okL 244 132 T244_78 = true := (okL_c (o244_77 hB)).2.2
theorem o244_79 (hB : BytesOK) : okL 244 133 T244_79 = true := (okL_c (o244_78 hB)).2.2
theorem o244_80 (hB : BytesOK) : okL 244 134 T244_80 = true := (okL_c (o244_79 hB)).2.2
theorem o244_81 (hB : BytesOK) : okL 244 135 T244_81 = true := (okL_c (o244_80 hB)).2.2
theorem o244_82 (hB : BytesOK) : okL 244 136 T244_82 = true := (okL_c (o244_81 hB)).2.2
theorem o244_83 (hB : BytesOK) : okL 244 139 T244_83 = true := (okL_c (o244_82 hB)).2.2
theorem o244_84 (hB : BytesOK) : okL 244 141 T244_84 = true := (okL_c (o244_83 hB)).2.2
theorem o244_85 (hB : BytesOK) : okL 244 142 T244_85 = true := (okL_c (o244_84 hB)).2.2
theorem o244_86 (hB : BytesOK) : okL 244 143 T244_86 = true := (okL_c (o244_85 hB)).2.2
theorem o244_87 (hB : BytesOK) : okL 244 144 T244_87 = true := (okL_c (o244_86 hB)).2.2
theorem ml244 : mml 244 = 5 := by decide +kernel
theorem mr244 : mret 244 = some .int := by decide +kernel
theorem mg244 : kGood 244 = true := by decide +kernel

def T245_63 : List Tok := []
def T245_62 : List Tok := (.ireturn, 1, 0, 0) :: T245_63
def T245_61 : List Tok := (.iconst 0, 1, 0, 0) :: T245_62
def T245_60 : List Tok := (.goto 4, 3, 0, 0) :: T245_61
def T245_59 : List Tok := (.iconst 1, 1, 0, 0) :: T245_60
def T245_58 : List Tok := (.if_icmp .ne 7, 3, 0, 0) :: T245_59
def T245_57 : List Tok := (.iaload, 1, 0, 0) :: T245_58
def T245_56 : List Tok := (.iadd, 1, 0, 0) :: T245_57
def T245_55 : List Tok := (.iconst 2, 1, 0, 0) :: T245_56
def T245_54 : List Tok := (.iadd, 1, 0, 0) :: T245_55
def T245_53 : List Tok := (.imul, 1, 0, 0) :: T245_54
def T245_52 : List Tok := (.iload_n 2, 1, 0, 0) :: T245_53
def T245_51 : List Tok := (.iconst 5, 1, 0, 0) :: T245_52
def T245_50 : List Tok := (.sipush 514, 3, 0, 0) :: T245_51
def T245_49 : List Tok := (.getfield 7, 3, 704, 1345) :: T245_50
def T245_48 : List Tok := (.aload_n 0, 1, 0, 0) :: T245_49
def T245_47 : List Tok := (.iaload, 1, 0, 0) :: T245_48
def T245_46 : List Tok := (.iadd, 1, 0, 0) :: T245_47
def T245_45 : List Tok := (.iconst 2, 1, 0, 0) :: T245_46
def T245_44 : List Tok := (.iadd, 1, 0, 0) :: T245_45
def T245_43 : List Tok := (.imul, 1, 0, 0) :: T245_44
def T245_42 : List Tok := (.iload_n 1, 1, 0, 0) :: T245_43
def T245_41 : List Tok := (.iconst 5, 1, 0, 0) :: T245_42
def T245_40 : List Tok := (.sipush 514, 3, 0, 0) :: T245_41
def T245_39 : List Tok := (.getfield 7, 3, 704, 1345) :: T245_40
def T245_38 : List Tok := (.aload_n 0, 1, 0, 0) :: T245_39
def T245_37 : List Tok := (.if_icmp .ne 38, 3, 0, 0) :: T245_38
def T245_36 : List Tok := (.iaload, 1, 0, 0) :: T245_37
def T245_35 : List Tok := (.iadd, 1, 0, 0) :: T245_36
def T245_34 : List Tok := (.iconst 1, 1, 0, 0) :: T245_35
def T245_33 : List Tok := (.iadd, 1, 0, 0) :: T245_34
def T245_32 : List Tok := (.imul, 1, 0, 0) :: T245_33
def T245_31 : List Tok := (.iload_n 2, 1, 0, 0) :: T245_32
def T245_30 : List Tok := (.iconst 5, 1, 0, 0) :: T245_31
def T245_29 : List Tok := (.sipush 514, 3, 0, 0) :: T245_30
def T245_28 : List Tok := (.getfield 7, 3, 704, 1345) :: T245_29
def T245_27 : List Tok := (.aload_n 0, 1, 0, 0) :: T245_28
def T245_26 : List Tok := (.iaload, 1, 0, 0) :: T245_27
def T245_25 : List Tok := (.iadd, 1, 0, 0) :: T245_26
def T245_24 : List Tok := (.iconst 1, 1, 0, 0) :: T245_25
def T245_23 : List Tok := (.iadd, 1, 0, 0) :: T245_24
def T245_22 : List Tok := (.imul, 1, 0, 0) :: T245_23
def T245_21 : List Tok := (.iload_n 1, 1, 0, 0) :: T245_22
def T245_20 : List Tok := (.iconst 5, 1, 0, 0) :: T245_21
def T245_19 : List Tok := (.sipush 514, 3, 0, 0) :: T245_20
def T245_18 : List Tok := (.getfield 7, 3, 704, 1345) :: T245_19
def T245_17 : List Tok := (.aload_n 0, 1, 0, 0) :: T245_18
def T245_16 : List Tok := (.if_icmp .ne 69, 3, 0, 0) :: T245_17
def T245_15 : List Tok := (.iaload, 1, 0, 0) :: T245_16
def T245_14 : List Tok := (.iadd, 1, 0, 0) :: T245_15
def T245_13 : List Tok := (.imul, 1, 0, 0) :: T245_14
def T245_12 : List Tok := (.iload_n 2, 1, 0, 0) :: T245_13
def T245_11 : List Tok := (.iconst 5, 1, 0, 0) :: T245_12
def T245_10 : List Tok := (.sipush 514, 3, 0, 0) :: T245_11
def T245_9 : List Tok := (.getfield 7, 3, 704, 1345) :: T245_10
def T245_8 : List Tok := (.aload_n 0, 1, 0, 0) :: T245_9
def T245_7 : List Tok := (.iaload, 1, 0, 0) :: T245_8
def T245_6 : List Tok := (.iadd, 1, 0, 0) :: T245_7
def T245_5 : List Tok := (.imul, 1, 0, 0) :: T245_6
def T245_4 : List Tok := (.iload_n 1, 1, 0, 0) :: T245_5
def T245_3 : List Tok := (.iconst 5, 1, 0, 0) :: T245_4
def T245_2 : List Tok := (.sipush 514, 3, 0, 0) :: T245_3
def T245_1 : List Tok := (.getfield 7, 3, 704, 1345) :: T245_2
def T245_0 : List Tok := (.aload_n 0, 1, 0, 0) :: T245_1
theorem o245_0 (hB : BytesOK) : okL 245 0 T245_0 = true := by
  have h := hB.1 245
  rw [show tk 245 = T245_0 from by decide +kernel] at h
  exact h
theorem o245_1 (hB : BytesOK) : okL 245 1 T245_1 = true := (okL_c (o245_0 hB)).2.2
theorem o245_2 (hB : BytesOK) : okL 245 4 T245_2 = true := (okL_c (o245_1 hB)).2.2
theorem o245_3 (hB : BytesOK) : okL 245 7 T245_3 = true := (okL_c (o245_2 hB)).2.2
theorem o245_4 (hB : BytesOK) : okL 245 8 T245_4 = true := (okL_c (o245_3 hB)).2.2
theorem o245_5 (hB : BytesOK) : okL 245 9 T245_5 = true := (okL_c (o245_4 hB)).2.2
theorem o245_6 (hB : BytesOK) : okL 245 10 T245_6 = true := (okL_c (o245_5 hB)).2.2
theorem o245_7 (hB : BytesOK) : okL 245 11 T245_7 = true := (okL_c (o245_6 hB)).2.2
theorem o245_8 (hB : BytesOK) : okL 245 12 T245_8 = true := (okL_c (o245_7 hB)).2.2
theorem o245_9 (hB : BytesOK) : okL 245 13 T245_9 = true := (okL_c (o245_8 hB)).2.2
theorem o245_10 (hB : BytesOK) : okL 245 16 T245_10 = true := (okL_c (o245_9 hB)).2.2
theorem o245_11 (hB : BytesOK) : okL 245 19 T245_11 = true := (okL_c (o245_10 hB)).2.2
theorem o245_12 (hB : BytesOK) : okL 245 20 T245_12 = true := (okL_c (o245_11 hB)).2.2
theorem o245_13 (hB : BytesOK) : okL 245 21 T245_13 = true := (okL_c (o245_12 hB)).2.2
theorem o245_14 (hB : BytesOK) : okL 245 22 T245_14 = true := (okL_c (o245_13 hB)).2.2
theorem o245_15 (hB : BytesOK) : okL 245 23 T245_15 = true := (okL_c (o245_14 hB)).2.2
theorem o245_16 (hB : BytesOK) : okL 245 24 T245_16 = true := (okL_c (o245_15 hB)).2.2
theorem o245_17 (hB : BytesOK) : okL 245 27 T245_17 = true := (okL_c (o245_16 hB)).2.2
theorem o245_18 (hB : BytesOK) : okL 245 28 T245_18 = true := (okL_c (o245_17 hB)).2.2
theorem o245_19 (hB : BytesOK) : okL 245 31 T245_19 = true := (okL_c (o245_18 hB)).2.2
theorem o245_20 (hB : BytesOK) : okL 245 34 T245_20 = true := (okL_c (o245_19 hB)).2.2
theorem o245_21 (hB : BytesOK) : okL 245 35 T245_21 = true := (okL_c (o245_20 hB)).2.2
theorem o245_22 (hB : BytesOK) : okL 245 36 T245_22 = true := (okL_c (o245_21 hB)).2.2
theorem o245_23 (hB : BytesOK) : okL 245 37 T245_23 = true := (okL_c (o245_22 hB)).2.2
theorem o245_24 (hB : BytesOK) : okL 245 38 T245_24 = true := (okL_c (o245_23 hB)).2.2
theorem o245_25 (hB : BytesOK) : okL 245 39 T245_25 = true := (okL_c (o245_24 hB)).2.2
theorem o245_26 (hB : BytesOK) : okL 245 40 T245_26 = true := (okL_c (o245_25 hB)).2.2
theorem o245_27 (hB : BytesOK) : okL 245 41 T245_27 = true := (okL_c (o245_26 hB)).2.2
theorem o245_28 (hB : BytesOK) : okL 245 42 T245_28 = true := (okL_c (o245_27 hB)).2.2
theorem o245_29 (hB : BytesOK) : okL 245 45 T245_29 = true := (okL_c (o245_28 hB)).2.2
theorem o245_30 (hB : BytesOK) : okL 245 48 T245_30 = true := (okL_c (o245_29 hB)).2.2
theorem o245_31 (hB : BytesOK) : okL 245 49 T245_31 = true := (okL_c (o245_30 hB)).2.2
theorem o245_32 (hB : BytesOK) : okL 245 50 T245_32 = true := (okL_c (o245_31 hB)).2.2
theorem o245_33 (hB : BytesOK) : okL 245 51 T245_33 = true := (okL_c (o245_32 hB)).2.2
theorem o245_34 (hB : BytesOK) : okL 245 52 T245_34 = true := (okL_c (o245_33 hB)).2.2
theorem o245_35 (hB : BytesOK) : okL 245 53 T245_35 = true := (okL_c (o245_34 hB)).2.2
theorem o245_36 (hB : BytesOK) : okL 245 54 T245_36 = true := (okL_c (o245_35 hB)).2.2
theorem o245_37 (hB : BytesOK) : okL 245 55 T245_37 = true := (okL_c (o245_36 hB)).2.2
theorem o245_38 (hB : BytesOK) : okL 245 58 T245_38 = true := (okL_c (o245_37 hB)).2.2
theorem o245_39 (hB : BytesOK) : okL 245 59 T245_39 = true := (okL_c (o245_38 hB)).2.2
theorem o245_40 (hB : BytesOK) : okL 245 62 T245_40 = true := (okL_c (o245_39 hB)).2.2
theorem o245_41 (hB : BytesOK) : okL 245 65 T245_41 = true := (okL_c (o245_40 hB)).2.2
theorem o245_42 (hB : BytesOK) : okL 245 66 T245_42 = true := (okL_c (o245_41 hB)).2.2
theorem o245_43 (hB : BytesOK) : okL 245 67 T245_43 = true := (okL_c (o245_42 hB)).2.2
theorem o245_44 (hB : BytesOK) : okL 245 68 T245_44 = true := (okL_c (o245_43 hB)).2.2
theorem o245_45 (hB : BytesOK) : okL 245 69 T245_45 = true := (okL_c (o245_44 hB)).2.2
theorem o245_46 (hB : BytesOK) : okL 245 70 T245_46 = true := (okL_c (o245_45 hB)).2.2
theorem o245_47 (hB : BytesOK) : okL 245 71 T245_47 = true := (okL_c (o245_46 hB)).2.2
theorem o245_48 (hB : BytesOK) : okL 245 72 T245_48 = true := (okL_c (o245_47 hB)).2.2
theorem o245_49 (hB : BytesOK) : okL 245 73 T245_49 = true := (okL_c (o245_48 hB)).2.2
theorem o245_50 (hB : BytesOK) : okL 245 76 T245_50 = true := (okL_c (o245_49 hB)).2.2
theorem o245_51 (hB : BytesOK) : okL 245 79 T245_51 = true := (okL_c (o245_50 hB)).2.2
theorem o245_52 (hB : BytesOK) : okL 245 80 T245_52 = true := (okL_c (o245_51 hB)).2.2
theorem o245_53 (hB : BytesOK) : okL 245 81 T245_53 = true := (okL_c (o245_52 hB)).2.2
theorem o245_54 (hB : BytesOK) : okL 245 82 T245_54 = true := (okL_c (o245_53 hB)).2.2
theorem o245_55 (hB : BytesOK) : okL 245 83 T245_55 = true := (okL_c (o245_54 hB)).2.2
theorem o245_56 (hB : BytesOK) : okL 245 84 T245_56 = true := (okL_c (o245_55 hB)).2.2
theorem o245_57 (hB : BytesOK) : okL 245 85 T245_57 = true := (okL_c (o245_56 hB)).2.2
theorem o245_58 (hB : BytesOK) : okL 245 86 T245_58 = true := (okL_c (o245_57 hB)).2.2
theorem o245_59 (hB : BytesOK) : okL 245 89 T245_59 = true := (okL_c (o245_58 hB)).2.2
theorem o245_60 (hB : BytesOK) : okL 245 90 T245_60 = true := (okL_c (o245_59 hB)).2.2
theorem o245_61 (hB : BytesOK) : okL 245 93 T245_61 = true := (okL_c (o245_60 hB)).2.2
theorem o245_62 (hB : BytesOK) : okL 245 94 T245_62 = true := (okL_c (o245_61 hB)).2.2
theorem ml245 : mml 245 = 3 := by decide +kernel
theorem mr245 : mret 245 = some .boolean := by decide +kernel
theorem mg245 : kGood 245 = true := by decide +kernel

def T246_138 : List Tok := []
def T246_137 : List Tok := (.ireturn, 1, 0, 0) :: T246_138
def T246_136 : List Tok := (.iload_n 3, 1, 0, 0) :: T246_137
def T246_135 : List Tok := (.goto (-219), 3, 0, 0) :: T246_136
def T246_134 : List Tok := (.iinc 4 1, 3, 0, 0) :: T246_135
def T246_133 : List Tok := (.istore_n 3, 1, 0, 0) :: T246_134
def T246_132 : List Tok := (.iadd, 1, 0, 0) :: T246_133
def T246_131 : List Tok := (.iconst 0, 1, 0, 0) :: T246_132
def T246_130 : List Tok := (.goto 4, 3, 0, 0) :: T246_131
def T246_129 : List Tok := (.iload 7, 2, 0, 0) :: T246_130
def T246_128 : List Tok := (.ifCond .le 8, 3, 0, 0) :: T246_129
def T246_127 : List Tok := (.iload 7, 2, 0, 0) :: T246_128
def T246_126 : List Tok := (.iload_n 3, 1, 0, 0) :: T246_127
def T246_125 : List Tok := (.istore 7, 2, 0, 0) :: T246_126
def T246_124 : List Tok := (.iconst 0, 1, 0, 0) :: T246_125
def T246_123 : List Tok := (.goto 4, 3, 0, 0) :: T246_124
def T246_122 : List Tok := (.isub, 1, 0, 0) :: T246_123
def T246_121 : List Tok := (.invokevirtual 225, 3, 231, 1668) :: T246_122
def T246_120 : List Tok := (.iload_n 2, 1, 0, 0) :: T246_121
def T246_119 : List Tok := (.iaload, 1, 0, 0) :: T246_120
def T246_118 : List Tok := (.iadd, 1, 0, 0) :: T246_119
def T246_117 : List Tok := (.iconst 2, 1, 0, 0) :: T246_118
def T246_116 : List Tok := (.iload 5, 2, 0, 0) :: T246_117
def T246_115 : List Tok := (.getfield 7, 3, 704, 1345) :: T246_116
def T246_114 : List Tok := (.aload_n 0, 1, 0, 0) :: T246_115
def T246_113 : List Tok := (.iaload, 1, 0, 0) :: T246_114
def T246_112 : List Tok := (.iadd, 1, 0, 0) :: T246_113
def T246_111 : List Tok := (.iconst 1, 1, 0, 0) :: T246_112
def T246_110 : List Tok := (.iload 5, 2, 0, 0) :: T246_111
def T246_109 : List Tok := (.getfield 7, 3, 704, 1345) :: T246_110
def T246_108 : List Tok := (.aload_n 0, 1, 0, 0) :: T246_109
def T246_107 : List Tok := (.iload_n 1, 1, 0, 0) :: T246_108
def T246_106 : List Tok := (.aload_n 0, 1, 0, 0) :: T246_107
def T246_105 : List Tok := (.iaload, 1, 0, 0) :: T246_106
def T246_104 : List Tok := (.iadd, 1, 0, 0) :: T246_105
def T246_103 : List Tok := (.iconst 3, 1, 0, 0) :: T246_104
def T246_102 : List Tok := (.iload 5, 2, 0, 0) :: T246_103
def T246_101 : List Tok := (.getfield 7, 3, 704, 1345) :: T246_102
def T246_100 : List Tok := (.aload_n 0, 1, 0, 0) :: T246_101
def T246_99 : List Tok := (.ifCond .eq 40, 3, 0, 0) :: T246_100
def T246_98 : List Tok := (.iload 6, 2, 0, 0) :: T246_99
def T246_97 : List Tok := (.goto (-111), 3, 0, 0) :: T246_98
def T246_96 : List Tok := (.iinc 7 1, 3, 0, 0) :: T246_97
def T246_95 : List Tok := (.istore 6, 2, 0, 0) :: T246_96
def T246_94 : List Tok := (.iconst 0, 1, 0, 0) :: T246_95
def T246_93 : List Tok := (.goto 4, 3, 0, 0) :: T246_94
def T246_92 : List Tok := (.iconst 1, 1, 0, 0) :: T246_93
def T246_91 : List Tok := (.ifCond .ne 7, 3, 0, 0) :: T246_92
def T246_90 : List Tok := (.iload 8, 2, 0, 0) :: T246_91
def T246_89 : List Tok := (.ifCond .eq 8, 3, 0, 0) :: T246_90
def T246_88 : List Tok := (.invokevirtual 261, 3, 245, 1735) :: T246_89
def T246_87 : List Tok := (.iload 7, 2, 0, 0) :: T246_88
def T246_86 : List Tok := (.iload 4, 2, 0, 0) :: T246_87
def T246_85 : List Tok := (.aload_n 0, 1, 0, 0) :: T246_86
def T246_84 : List Tok := (.ifCond .eq 23, 3, 0, 0) :: T246_85
def T246_83 : List Tok := (.iload 6, 2, 0, 0) :: T246_84
def T246_82 : List Tok := (.istore 8, 2, 0, 0) :: T246_83
def T246_81 : List Tok := (.iconst 0, 1, 0, 0) :: T246_82
def T246_80 : List Tok := (.goto 4, 3, 0, 0) :: T246_81
def T246_79 : List Tok := (.iconst 1, 1, 0, 0) :: T246_80
def T246_78 : List Tok := (.if_icmp .ge 7, 3, 0, 0) :: T246_79
def T246_77 : List Tok := (.iload 4, 2, 0, 0) :: T246_78
def T246_76 : List Tok := (.iload 7, 2, 0, 0) :: T246_77
def T246_75 : List Tok := (.if_icmp .ne 14, 3, 0, 0) :: T246_76
def T246_74 : List Tok := (.iaload, 1, 0, 0) :: T246_75
def T246_73 : List Tok := (.iadd, 1, 0, 0) :: T246_74
def T246_72 : List Tok := (.iconst 3, 1, 0, 0) :: T246_73
def T246_71 : List Tok := (.iload 5, 2, 0, 0) :: T246_72
def T246_70 : List Tok := (.getfield 7, 3, 704, 1345) :: T246_71
def T246_69 : List Tok := (.aload_n 0, 1, 0, 0) :: T246_70
def T246_68 : List Tok := (.iaload, 1, 0, 0) :: T246_69
def T246_67 : List Tok := (.iadd, 1, 0, 0) :: T246_68
def T246_66 : List Tok := (.iconst 3, 1, 0, 0) :: T246_67
def T246_65 : List Tok := (.iadd, 1, 0, 0) :: T246_66
def T246_64 : List Tok := (.imul, 1, 0, 0) :: T246_65
def T246_63 : List Tok := (.iload 7, 2, 0, 0) :: T246_64
def T246_62 : List Tok := (.iconst 5, 1, 0, 0) :: T246_63
def T246_61 : List Tok := (.sipush 514, 3, 0, 0) :: T246_62
def T246_60 : List Tok := (.getfield 7, 3, 704, 1345) :: T246_61
def T246_59 : List Tok := (.aload_n 0, 1, 0, 0) :: T246_60
def T246_58 : List Tok := (.if_icmp .gt 37, 3, 0, 0) :: T246_59
def T246_57 : List Tok := (.iaload, 1, 0, 0) :: T246_58
def T246_56 : List Tok := (.iadd, 1, 0, 0) :: T246_57
def T246_55 : List Tok := (.iconst 3, 1, 0, 0) :: T246_56
def T246_54 : List Tok := (.iload 5, 2, 0, 0) :: T246_55
def T246_53 : List Tok := (.getfield 7, 3, 704, 1345) :: T246_54
def T246_52 : List Tok := (.aload_n 0, 1, 0, 0) :: T246_53
def T246_51 : List Tok := (.iaload, 1, 0, 0) :: T246_52
def T246_50 : List Tok := (.iadd, 1, 0, 0) :: T246_51
def T246_49 : List Tok := (.iconst 3, 1, 0, 0) :: T246_50
def T246_48 : List Tok := (.iadd, 1, 0, 0) :: T246_49
def T246_47 : List Tok := (.imul, 1, 0, 0) :: T246_48
def T246_46 : List Tok := (.iload 7, 2, 0, 0) :: T246_47
def T246_45 : List Tok := (.iconst 5, 1, 0, 0) :: T246_46
def T246_44 : List Tok := (.sipush 514, 3, 0, 0) :: T246_45
def T246_43 : List Tok := (.getfield 7, 3, 704, 1345) :: T246_44
def T246_42 : List Tok := (.aload_n 0, 1, 0, 0) :: T246_43
def T246_41 : List Tok := (.if_icmp .ge 105, 3, 0, 0) :: T246_42
def T246_40 : List Tok := (.iaload, 1, 0, 0) :: T246_41
def T246_39 : List Tok := (.bipush 8, 2, 0, 0) :: T246_40
def T246_38 : List Tok := (.getfield 7, 3, 704, 1345) :: T246_39
def T246_37 : List Tok := (.aload_n 0, 1, 0, 0) :: T246_38
def T246_36 : List Tok := (.iload 7, 2, 0, 0) :: T246_37
def T246_35 : List Tok := (.istore 7, 2, 0, 0) :: T246_36
def T246_34 : List Tok := (.iconst 0, 1, 0, 0) :: T246_35
def T246_33 : List Tok := (.istore 6, 2, 0, 0) :: T246_34
def T246_32 : List Tok := (.iconst 0, 1, 0, 0) :: T246_33
def T246_31 : List Tok := (.goto 4, 3, 0, 0) :: T246_32
def T246_30 : List Tok := (.iconst 1, 1, 0, 0) :: T246_31
def T246_29 : List Tok := (.if_icmp .ne 7, 3, 0, 0) :: T246_30
def T246_28 : List Tok := (.iload_n 1, 1, 0, 0) :: T246_29
def T246_27 : List Tok := (.iaload, 1, 0, 0) :: T246_28
def T246_26 : List Tok := (.iload 5, 2, 0, 0) :: T246_27
def T246_25 : List Tok := (.getfield 7, 3, 704, 1345) :: T246_26
def T246_24 : List Tok := (.aload_n 0, 1, 0, 0) :: T246_25
def T246_23 : List Tok := (.istore 5, 2, 0, 0) :: T246_24
def T246_22 : List Tok := (.iadd, 1, 0, 0) :: T246_23
def T246_21 : List Tok := (.imul, 1, 0, 0) :: T246_22
def T246_20 : List Tok := (.iload 4, 2, 0, 0) :: T246_21
def T246_19 : List Tok := (.iconst 5, 1, 0, 0) :: T246_20
def T246_18 : List Tok := (.sipush 514, 3, 0, 0) :: T246_19
def T246_17 : List Tok := (.if_icmp .ge 213, 3, 0, 0) :: T246_18
def T246_16 : List Tok := (.iaload, 1, 0, 0) :: T246_17
def T246_15 : List Tok := (.bipush 8, 2, 0, 0) :: T246_16
def T246_14 : List Tok := (.getfield 7, 3, 704, 1345) :: T246_15
def T246_13 : List Tok := (.aload_n 0, 1, 0, 0) :: T246_14
def T246_12 : List Tok := (.iload 4, 2, 0, 0) :: T246_13
def T246_11 : List Tok := (.istore 4, 2, 0, 0) :: T246_12
def T246_10 : List Tok := (.iconst 0, 1, 0, 0) :: T246_11
def T246_9 : List Tok := (.istore_n 3, 1, 0, 0) :: T246_10
def T246_8 : List Tok := (.iconst 0, 1, 0, 0) :: T246_9
def T246_7 : List Tok := (.ireturn, 1, 0, 0) :: T246_8
def T246_6 : List Tok := (.iconst (-1), 1, 0, 0) :: T246_7
def T246_5 : List Tok := (.ifCond .ne 5, 3, 0, 0) :: T246_6
def T246_4 : List Tok := (.invokestatic 72, 3, 185, 1501) :: T246_5
def T246_3 : List Tok := (.iload_n 2, 1, 0, 0) :: T246_4
def T246_2 : List Tok := (.ifCond .eq 10, 3, 0, 0) :: T246_3
def T246_1 : List Tok := (.invokestatic 229, 3, 187, 1676) :: T246_2
def T246_0 : List Tok := (.iload_n 1, 1, 0, 0) :: T246_1
theorem o246_0 (hB : BytesOK) : okL 246 0 T246_0 = true := by
  have h := hB.1 246
  rw [show tk 246 = T246_0 from by decide +kernel] at h
  exact h
theorem o246_1 (hB : BytesOK) : okL 246 1 T246_1 = true := (okL_c (o246_0 hB)).2.2
theorem o246_2 (hB : BytesOK) : okL 246 4 T246_2 = true := (okL_c (o246_1 hB)).2.2
theorem o246_3 (hB : BytesOK) : okL 246 7 T246_3 = true := (okL_c (o246_2 hB)).2.2
theorem o246_4 (hB : BytesOK) : okL 246 8 T246_4 = true := (okL_c (o246_3 hB)).2.2
theorem o246_5 (hB : BytesOK) : okL 246 11 T246_5 = true := (okL_c (o246_4 hB)).2.2
theorem o246_6 (hB : BytesOK) : okL 246 14 T246_6 = true := (okL_c (o246_5 hB)).2.2
theorem o246_7 (hB : BytesOK) : okL 246 15 T246_7 = true := (okL_c (o246_6 hB)).2.2
theorem o246_8 (hB : BytesOK) : okL 246 16 T246_8 = true := (okL_c (o246_7 hB)).2.2
theorem o246_9 (hB : BytesOK) : okL 246 17 T246_9 = true := (okL_c (o246_8 hB)).2.2
theorem o246_10 (hB : BytesOK) : okL 246 18 T246_10 = true := (okL_c (o246_9 hB)).2.2
theorem o246_11 (hB : BytesOK) : okL 246 19 T246_11 = true := (okL_c (o246_10 hB)).2.2
theorem o246_12 (hB : BytesOK) : okL 246 21 T246_12 = true := (okL_c (o246_11 hB)).2.2
theorem o246_13 (hB : BytesOK) : okL 246 23 T246_13 = true := (okL_c (o246_12 hB)).2.2
theorem o246_14 (hB : BytesOK) : okL 246 24 T246_14 = true := (okL_c (o246_13 hB)).2.2
theorem o246_15 (hB : BytesOK) : okL 246 27 T246_15 = true := (okL_c (o246_14 hB)).2.2
theorem o246_16 (hB : BytesOK) : okL 246 29 T246_16 = true := (okL_c (o246_15 hB)).2.2
theorem o246_17 (hB : BytesOK) : okL 246 30 T246_17 = true := (okL_c (o246_16 hB)).2.2
theorem o246_18 (hB : BytesOK) : okL 246 33 T246_18 = true := (okL_c (o246_17 hB)).2.2
theorem o246_19 (hB : BytesOK) : okL 246 36 T246_19 = true := (okL_c (o246_18 hB)).2.2
theorem o246_20 (hB : BytesOK) : okL 246 37 T246_20 = true := (okL_c (o246_19 hB)).2.2
theorem o246_21 (hB : BytesOK) : okL 246 39 T246_21 = true := (okL_c (o246_20 hB)).2.2
theorem o246_22 (hB : BytesOK) : okL 246 40 T246_22 = true := (okL_c (o246_21 hB)).2.2
theorem o246_23 (hB : BytesOK) : okL 246 41 T246_23 = true := (okL_c (o246_22 hB)).2.2
theorem o246_24 (hB : BytesOK) : okL 246 43 T246_24 = true := (okL_c (o246_23 hB)).2.2
theorem o246_25 (hB : BytesOK) : okL 246 44 T246_25 = true := (okL_c (o246_24 hB)).2.2
theorem o246_26 (hB : BytesOK) : okL 246 47 T246_26 = true := (okL_c (o246_25 hB)).2.2
theorem o246_27 (hB : BytesOK) : okL 246 49 T246_27 = true := (okL_c (o246_26 hB)).2.2
theorem o246_28 (hB : BytesOK) : okL 246 50 T246_28 = true := (okL_c (o246_27 hB)).2.2
theorem o246_29 (hB : BytesOK) : okL 246 51 T246_29 = true := (okL_c (o246_28 hB)).2.2
theorem o246_30 (hB : BytesOK) : okL 246 54 T246_30 = true := (okL_c (o246_29 hB)).2.2
theorem o246_31 (hB : BytesOK) : okL 246 55 T246_31 = true := (okL_c (o246_30 hB)).2.2
theorem o246_32 (hB : BytesOK) : okL 246 58 T246_32 = true := (okL_c (o246_31 hB)).2.2
theorem o246_33 (hB : BytesOK) : okL 246 59 T246_33 = true := (okL_c (o246_32 hB)).2.2
theorem o246_34 (hB : BytesOK) : okL 246 61 T246_34 = true := (okL_c (o246_33 hB)).2.2
theorem o246_35 (hB : BytesOK) : okL 246 62 T246_35 = true := (okL_c (o246_34 hB)).2.2
theorem o246_36 (hB : BytesOK) : okL 246 64 T246_36 = true := (okL_c (o246_35 hB)).2.2
theorem o246_37 (hB : BytesOK) : okL 246 66 T246_37 = true := (okL_c (o246_36 hB)).2.2
theorem o246_38 (hB : BytesOK) : okL 246 67 T246_38 = true := (okL_c (o246_37 hB)).2.2
theorem o246_39 (hB : BytesOK) : okL 246 70 T246_39 = true := (okL_c (o246_38 hB)).2.2
theorem o246_40 (hB : BytesOK) : okL 246 72 T246_40 = true := (okL_c (o246_39 hB)).2.2
theorem o246_41 (hB : BytesOK) : okL 246 73 T246_41 = true := (okL_c (o246_40 hB)).2.2
theorem o246_42 (hB : BytesOK) : okL 246 76 T246_42 = true := (okL_c (o246_41 hB)).2.2
theorem o246_43 (hB : BytesOK) : okL 246 77 T246_43 = true := (okL_c (o246_42 hB)).2.2
theorem o246_44 (hB : BytesOK) : okL 246 80 T246_44 = true := (okL_c (o246_43 hB)).2.2
theorem o246_45 (hB : BytesOK) : okL 246 83 T246_45 = true := (okL_c (o246_44 hB)).2.2
theorem o246_46 (hB : BytesOK) : okL 246 84 T246_46 = true := (okL_c (o246_45 hB)).2.2
theorem o246_47 (hB : BytesOK) : okL 246 86 T246_47 = true := (okL_c (o246_46 hB)).2.2
theorem o246_48 (hB : BytesOK) : okL 246 87 T246_48 = true := (okL_c (o246_47 hB)).2.2
theorem o246_49 (hB : BytesOK) : okL 246 88 T246_49 = true := (okL_c (o246_48 hB)).2.2
theorem o246_50 (hB : BytesOK) : okL 246 89 T246_50 = true := (okL_c (o246_49 hB)).2.2
theorem o246_51 (hB : BytesOK) : okL 246 90 T246_51 = true := (okL_c (o246_50 hB)).2.2
theorem o246_52 (hB : BytesOK) : okL 246 91 T246_52 = true := (okL_c (o246_51 hB)).2.2
theorem o246_53 (hB : BytesOK) : okL 246 92 T246_53 = true := (okL_c (o246_52 hB)).2.2
theorem o246_54 (hB : BytesOK) : okL 246 95 T246_54 = true := (okL_c (o246_53 hB)).2.2
theorem o246_55 (hB : BytesOK) : okL 246 97 T246_55 = true := (okL_c (o246_54 hB)).2.2
theorem o246_56 (hB : BytesOK) : okL 246 98 T246_56 = true := (okL_c (o246_55 hB)).2.2
theorem o246_57 (hB : BytesOK) : okL 246 99 T246_57 = true := (okL_c (o246_56 hB)).2.2
theorem o246_58 (hB : BytesOK) : okL 246 100 T246_58 = true := (okL_c (o246_57 hB)).2.2
theorem o246_59 (hB : BytesOK) : okL 246 103 T246_59 = true := (okL_c (o246_58 hB)).2.2
theorem o246_60 (hB : BytesOK) : okL 246 104 T246_60 = true := (okL_c (o246_59 hB)).2.2
theorem o246_61 (hB : BytesOK) : okL 246 107 T246_61 = true := (okL_c (o246_60 hB)).2.2
theorem o246_62 (hB : BytesOK) : okL 246 110 T246_62 = true := (okL_c (o246_61 hB)).2.2
theorem o246_63 (hB : BytesOK) : okL 246 111 T246_63 = true := (okL_c (o246_62 hB)).2.2
theorem o246_64 (hB : BytesOK) : okL 246 113 T246_64 = true := (okL_c (o246_63 hB)).2.2
theorem o246_65 (hB : BytesOK) : okL 246 114 T246_65 = true := (okL_c (o246_64 hB)).2.2
theorem o246_66 (hB : BytesOK) : okL 246 115 T246_66 = true := (okL_c (o246_65 hB)).2.2
theorem o246_67 (hB : BytesOK) : okL 246 116 T246_67 = true := (okL_c (o246_66 hB)).2.2
theorem o246_68 (hB : BytesOK) : okL 246 117 T246_68 = true := (okL_c (o246_67 hB)).2.2
theorem o246_69 (hB : BytesOK) : okL 246 118 T246_69 = true := (okL_c (o246_68 hB)).2.2
theorem o246_70 (hB : BytesOK) : okL 246 119 T246_70 = true := (okL_c (o246_69 hB)).2.2
theorem o246_71 (hB : BytesOK) : okL 246 122 T246_71 = true := (okL_c (o246_70 hB)).2.2
theorem o246_72 (hB : BytesOK) : okL 246 124 T246_72 = true := (okL_c (o246_71 hB)).2.2
theorem o246_73 (hB : BytesOK) : okL 246 125 T246_73 = true := (okL_c (o246_72 hB)).2.2
theorem o246_74 (hB : BytesOK) : okL 246 126 T246_74 = true := (okL_c (o246_73 hB)).2.2
theorem o246_75 (hB : BytesOK) : okL 246 127 T246_75 = true := (okL_c (o246_74 hB)).2.2
theorem o246_76 (hB : BytesOK) : okL 246 130 T246_76 = true := (okL_c (o246_75 hB)).2.2
theorem o246_77 (hB : BytesOK) : okL 246 132 T246_77 = true := (okL_c (o246_76 hB)).2.2
theorem o246_78 (hB : BytesOK) : okL 246 134 T246_78 = true := (okL_c (o246_77 hB)).2.2
theorem o246_79 (hB : BytesOK) : okL 246 137 T246_79 = true := (okL_c (o246_78 hB)).2.2
theorem o246_80 (hB : BytesOK) : okL 246 138 T246_80 = true := (okL_c (o246_79 hB)).2.2
theorem o246_81 (hB : BytesOK) : okL 246 141 T246_81 = true := (okL_c (o246_80 hB)).2.2
theorem o246_82 (hB : BytesOK) : okL 246 142 T246_82 = true := (okL_c (o246_81 hB)).2.2
theorem o246_83 (hB : BytesOK) : okL 246 144 T246_83 = true := (okL_c (o246_82 hB)).2.2
theorem o246_84 (hB : BytesOK) : okL 246 146 T246_84 = true := (okL_c (o246_83 hB)).2.2
theorem o246_85 (hB : BytesOK) : okL 246 149 T246_85 = true := (okL_c (o246_84 hB)).2.2
theorem o246_86 (hB : BytesOK) : okL 246 150 T246_86 = true := (okL_c (o246_85 hB)).2.2
theorem o246_87 (hB : BytesOK) : okL 246 152 T246_87 = true := (okL_c (o246_86 hB)).2.2
theorem o246_88 (hB : BytesOK) : okL 246 154 T246_88 = true := (okL_c (o246_87 hB)).2.2
theorem o246_89 (hB : BytesOK) : okL 246 157 T246_89 = true := (okL_c (o246_88 hB)).2.2
theorem o246_90 (hB : BytesOK) : okL 246 160 T246_90 = true := (okL_c (o246_89 hB)).2.2
theorem o246_91 (hB : BytesOK) : okL 246 162 T246_91 = true := (okL_c (o246_90 hB)).2.2
theorem o246_92 (hB : BytesOK) : okL 246 165 T246_92 = true := (okL_c (o246_91 hB)).2.2
theorem o246_93 (hB : BytesOK) : okL 246 166 T246_93 = true := (okL_c (o246_92 hB)).2.2
theorem o246_94 (hB : BytesOK) : okL 246 169 T246_94 = true := (okL_c (o246_93 hB)).2.2
theorem o246_95 (hB : BytesOK) : okL 246 170 T246_95 = true := (okL_c (o246_94 hB)).2.2
theorem o246_96 (hB : BytesOK) : okL 246 172 T246_96 = true := (okL_c (o246_95 hB)).2.2
theorem o246_97 (hB : BytesOK) : okL 246 175 T246_97 = true := (okL_c (o246_96 hB)).2.2
theorem o246_98 (hB : BytesOK) : okL 246 178 T246_98 = true := (okL_c (o246_97 hB)).2.2
theorem o246_99 (hB : BytesOK) : okL 246 180 T246_99 = true := (okL_c (o246_98 hB)).2.2
theorem o246_100 (hB : BytesOK) : okL 246 183 T246_100 = true := (okL_c (o246_99 hB)).2.2
theorem o246_101 (hB : BytesOK) : okL 246 184 T246_101 = true := (okL_c (o246_100 hB)).2.2
theorem o246_102 (hB : BytesOK) : okL 246 187 T246_102 = true := (okL_c (o246_101 hB)).2.2
theorem o246_103 (hB : BytesOK) : okL 246 189 T246_103 = true := (okL_c (o246_102 hB)).2.2
theorem o246_104 (hB : BytesOK) : okL 246 190 T246_104 = true := (okL_c (o246_103 hB)).2.2
theorem o246_105 (hB : BytesOK) : okL 246 191 T246_105 = true := (okL_c (o246_104 hB)).2.2
theorem o246_106 (hB : BytesOK) : okL 246 192 T246_106 = true := (okL_c (o246_105 hB)).2.2
theorem o246_107 (hB : BytesOK) : okL 246 193 T246_107 = true := (okL_c (o246_106 hB)).2.2
theorem o246_108 (hB : BytesOK) : okL 246 194 T246_108 = true := (okL_c (o246_107 hB)).2.2
theorem o246_109 (hB : BytesOK) : okL 246 195 T246_109 = true := (okL_c (o246_108 hB)).2.2
theorem o246_110 (hB : BytesOK) : okL 246 198 T246_110 = true := (okL_c (o246_109 hB)).2.2
theorem o246_111 (hB : BytesOK) : okL 246 200 T246_111 = true := (okL_c (o246_110 hB)).2.2
theorem o246_112 (hB : BytesOK) : okL 246 201 T246_112 = true := (okL_c (o246_111 hB)).2.2
theorem o246_113 (hB : BytesOK) : okL 246 202 T246_113 = true := (okL_c (o246_112 hB)).2.2
theorem o246_114 (hB : BytesOK) : okL 246 203 T246_114 = true := (okL_c (o246_113 hB)).2.2
theorem o246_115 (hB : BytesOK) : okL 246 204 T246_115 = true := (okL_c (o246_114 hB)).2.2
theorem o246_116 (hB : BytesOK) : okL 246 207 T246_116 = true := (okL_c (o246_115 hB)).2.2
theorem o246_117 (hB : BytesOK) : okL 246 209 T246_117 = true := (okL_c (o246_116 hB)).2.2
theorem o246_118 (hB : BytesOK) : okL 246 210 T246_118 = true := (okL_c (o246_117 hB)).2.2
theorem o246_119 (hB : BytesOK) : okL 246 211 T246_119 = true := (okL_c (o246_118 hB)).2.2
theorem o246_120 (hB : BytesOK) : okL 246 212 T246_120 = true := (okL_c (o246_119 hB)).2.2
theorem o246_121 (hB : BytesOK) : okL 246 213 T246_121 = true := (okL_c (o246_120 hB)).2.2
theorem o246_122 (hB : BytesOK) : okL 246 216 T246_122 = true := (okL_c (o246_121 hB)).2.2
theorem o246_123 (hB : BytesOK) : okL 246 217 T246_123 = true := (okL_c (o246_122 hB)).2.2
theorem o246_124 (hB : BytesOK) : okL 246 220 T246_124 = true := (okL_c (o246_123 hB)).2.2
theorem o246_125 (hB : BytesOK) : okL 246 221 T246_125 = true := (okL_c (o246_124 hB)).2.2
theorem o246_126 (hB : BytesOK) : okL 246 223 T246_126 = true := (okL_c (o246_125 hB)).2.2
theorem o246_127 (hB : BytesOK) : okL 246 224 T246_127 = true := (okL_c (o246_126 hB)).2.2
theorem o246_128 (hB : BytesOK) : okL 246 226 T246_128 = true := (okL_c (o246_127 hB)).2.2
theorem o246_129 (hB : BytesOK) : okL 246 229 T246_129 = true := (okL_c (o246_128 hB)).2.2
theorem o246_130 (hB : BytesOK) : okL 246 231 T246_130 = true := (okL_c (o246_129 hB)).2.2
theorem o246_131 (hB : BytesOK) : okL 246 234 T246_131 = true := (okL_c (o246_130 hB)).2.2
theorem o246_132 (hB : BytesOK) : okL 246 235 T246_132 = true := (okL_c (o246_131 hB)).2.2
theorem o246_133 (hB : BytesOK) : okL 246 236 T246_133 = true := (okL_c (o246_132 hB)).2.2
theorem o246_134 (hB : BytesOK) : okL 246 237 T246_134 = true := (okL_c (o246_133 hB)).2.2
theorem o246_135 (hB : BytesOK) : okL 246 240 T246_135 = true := (okL_c (o246_134 hB)).2.2
theorem o246_136 (hB : BytesOK) : okL 246 243 T246_136 = true := (okL_c (o246_135 hB)).2.2
theorem o246_137 (hB : BytesOK) : okL 246 244 T246_137 = true := (okL_c (o246_136 hB)).2.2
theorem ml246 : mml 246 = 9 := by decide +kernel
theorem mr246 : mret 246 = some .int := by decide +kernel
theorem mg246 : kGood 246 = true := by decide +kernel

def T298_7 : List Tok := []
def T298_6 : List Tok := (.ireturn, 1, 0, 0) :: T298_7
def T298_5 : List Tok := (.iload_n 1, 1, 0, 0) :: T298_6
def T298_4 : List Tok := (.goto 4, 3, 0, 0) :: T298_5
def T298_3 : List Tok := (.iload_n 0, 1, 0, 0) :: T298_4
def T298_2 : List Tok := (.if_icmp .lt 7, 3, 0, 0) :: T298_3
def T298_1 : List Tok := (.iload_n 1, 1, 0, 0) :: T298_2
def T298_0 : List Tok := (.iload_n 0, 1, 0, 0) :: T298_1
theorem o298_0 (hB : BytesOK) : okL 298 0 T298_0 = true := by
  have h := hB.1 298
  rw [show tk 298 = T298_0 from by decide +kernel] at h
  exact h
theorem o298_1 (hB : BytesOK) : okL 298 1 T298_1 = true := (okL_c (o298_0 hB)).2.2
theorem o298_2 (hB : BytesOK) : okL 298 2 T298_2 = true := (okL_c (o298_1 hB)).2.2
theorem o298_3 (hB : BytesOK) : okL 298 5 T298_3 = true := (okL_c (o298_2 hB)).2.2
theorem o298_4 (hB : BytesOK) : okL 298 6 T298_4 = true := (okL_c (o298_3 hB)).2.2
theorem o298_5 (hB : BytesOK) : okL 298 9 T298_5 = true := (okL_c (o298_4 hB)).2.2
theorem o298_6 (hB : BytesOK) : okL 298 10 T298_6 = true := (okL_c (o298_5 hB)).2.2
theorem ml298 : mml 298 = 2 := by decide +kernel
theorem mr298 : mret 298 = some .int := by decide +kernel
theorem mg298 : kGood 298 = true := by decide +kernel

def T300_7 : List Tok := []
def T300_6 : List Tok := (.ireturn, 1, 0, 0) :: T300_7
def T300_5 : List Tok := (.iload_n 1, 1, 0, 0) :: T300_6
def T300_4 : List Tok := (.goto 4, 3, 0, 0) :: T300_5
def T300_3 : List Tok := (.iload_n 0, 1, 0, 0) :: T300_4
def T300_2 : List Tok := (.if_icmp .gt 7, 3, 0, 0) :: T300_3
def T300_1 : List Tok := (.iload_n 1, 1, 0, 0) :: T300_2
def T300_0 : List Tok := (.iload_n 0, 1, 0, 0) :: T300_1
theorem o300_0 (hB : BytesOK) : okL 300 0 T300_0 = true := by
  have h := hB.1 300
  rw [show tk 300 = T300_0 from by decide +kernel] at h
  exact h
theorem o300_1 (hB : BytesOK) : okL 300 1 T300_1 = true := (okL_c (o300_0 hB)).2.2
theorem o300_2 (hB : BytesOK) : okL 300 2 T300_2 = true := (okL_c (o300_1 hB)).2.2
theorem o300_3 (hB : BytesOK) : okL 300 5 T300_3 = true := (okL_c (o300_2 hB)).2.2
theorem o300_4 (hB : BytesOK) : okL 300 6 T300_4 = true := (okL_c (o300_3 hB)).2.2
theorem o300_5 (hB : BytesOK) : okL 300 9 T300_5 = true := (okL_c (o300_4 hB)).2.2
theorem o300_6 (hB : BytesOK) : okL 300 10 T300_6 = true := (okL_c (o300_5 hB)).2.2
theorem ml300 : mml 300 = 2 := by decide +kernel
theorem mr300 : mret 300 = some .int := by decide +kernel
theorem mg300 : kGood 300 = true := by decide +kernel
